theorem d_X12_lays_0 : decode (zmc m_X12_lays) 0 = .ok (.iload_n 1, 1) := by decide +kernel
theorem d_X12_lays_1 : decode (zmc m_X12_lays) 1 = .ok (.tableswitch 150 0 8 #[51, 70, 80, 90, 100, 110, 120, 130, 140], 51) := by decide +kernel
theorem d_X12_lays_52 : decode (zmc m_X12_lays) 52 = .ok (.aload_n 0, 1) := by decide +kernel
theorem d_X12_lays_53 : decode (zmc m_X12_lays) 53 = .ok (.iload_n 3, 1) := by decide +kernel
theorem d_X12_lays_54 : decode (zmc m_X12_lays) 54 = .ok (.iload_n 2, 1) := by decide +kernel
theorem d_X12_lays_55 : decode (zmc m_X12_lays) 55 = .ok (.invokevirtual 160, 3) := by decide +kernel
theorem d_X12_lays_58 : decode (zmc m_X12_lays) 58 = .ok (.ifCond .eq 103, 3) := by decide +kernel
theorem d_X12_lays_61 : decode (zmc m_X12_lays) 61 = .ok (.aload_n 0, 1) := by decide +kernel
theorem d_X12_lays_62 : decode (zmc m_X12_lays) 62 = .ok (.getfield 9, 3) := by decide +kernel
theorem d_X12_lays_65 : decode (zmc m_X12_lays) 65 = .ok (.iload_n 2, 1) := by decide +kernel
theorem d_X12_lays_66 : decode (zmc m_X12_lays) 66 = .ok (.iload_n 3, 1) := by decide +kernel
theorem d_X12_lays_67 : decode (zmc m_X12_lays) 67 = .ok (.iastore, 1) := by decide +kernel
theorem d_X12_lays_68 : decode (zmc m_X12_lays) 68 = .ok (.goto 93, 3) := by decide +kernel
theorem d_X12_lays_71 : decode (zmc m_X12_lays) 71 = .ok (.aload_n 0, 1) := by decide +kernel
theorem d_X12_lays_72 : decode (zmc m_X12_lays) 72 = .ok (.getfield 15, 3) := by decide +kernel
theorem d_X12_lays_75 : decode (zmc m_X12_lays) 75 = .ok (.iload_n 2, 1) := by decide +kernel
theorem d_X12_lays_76 : decode (zmc m_X12_lays) 76 = .ok (.iload_n 3, 1) := by decide +kernel
theorem d_X12_lays_77 : decode (zmc m_X12_lays) 77 = .ok (.iastore, 1) := by decide +kernel
theorem d_X12_lays_78 : decode (zmc m_X12_lays) 78 = .ok (.goto 83, 3) := by decide +kernel
theorem d_X12_lays_81 : decode (zmc m_X12_lays) 81 = .ok (.aload_n 0, 1) := by decide +kernel
theorem d_X12_lays_82 : decode (zmc m_X12_lays) 82 = .ok (.getfield 18, 3) := by decide +kernel
theorem d_X12_lays_85 : decode (zmc m_X12_lays) 85 = .ok (.iload_n 2, 1) := by decide +kernel
theorem d_X12_lays_86 : decode (zmc m_X12_lays) 86 = .ok (.iload_n 3, 1) := by decide +kernel
theorem d_X12_lays_87 : decode (zmc m_X12_lays) 87 = .ok (.iastore, 1) := by decide +kernel
theorem d_X12_lays_88 : decode (zmc m_X12_lays) 88 = .ok (.goto 73, 3) := by decide +kernel
theorem d_X12_lays_91 : decode (zmc m_X12_lays) 91 = .ok (.aload_n 0, 1) := by decide +kernel
theorem d_X12_lays_92 : decode (zmc m_X12_lays) 92 = .ok (.getfield 21, 3) := by decide +kernel
theorem d_X12_lays_95 : decode (zmc m_X12_lays) 95 = .ok (.iload_n 2, 1) := by decide +kernel
theorem d_X12_lays_96 : decode (zmc m_X12_lays) 96 = .ok (.iload_n 3, 1) := by decide +kernel
theorem d_X12_lays_97 : decode (zmc m_X12_lays) 97 = .ok (.iastore, 1) := by decide +kernel
theorem d_X12_lays_98 : decode (zmc m_X12_lays) 98 = .ok (.goto 63, 3) := by decide +kernel
theorem d_X12_lays_101 : decode (zmc m_X12_lays) 101 = .ok (.aload_n 0, 1) := by decide +kernel
theorem d_X12_lays_102 : decode (zmc m_X12_lays) 102 = .ok (.getfield 24, 3) := by decide +kernel
theorem d_X12_lays_105 : decode (zmc m_X12_lays) 105 = .ok (.iload_n 2, 1) := by decide +kernel
theorem d_X12_lays_106 : decode (zmc m_X12_lays) 106 = .ok (.iload_n 3, 1) := by decide +kernel
theorem d_X12_lays_107 : decode (zmc m_X12_lays) 107 = .ok (.iastore, 1) := by decide +kernel
theorem d_X12_lays_108 : decode (zmc m_X12_lays) 108 = .ok (.goto 53, 3) := by decide +kernel
theorem d_X12_lays_111 : decode (zmc m_X12_lays) 111 = .ok (.aload_n 0, 1) := by decide +kernel
theorem d_X12_lays_112 : decode (zmc m_X12_lays) 112 = .ok (.getfield 27, 3) := by decide +kernel
theorem d_X12_lays_115 : decode (zmc m_X12_lays) 115 = .ok (.iload_n 2, 1) := by decide +kernel
theorem d_X12_lays_116 : decode (zmc m_X12_lays) 116 = .ok (.iload_n 3, 1) := by decide +kernel
theorem d_X12_lays_117 : decode (zmc m_X12_lays) 117 = .ok (.iastore, 1) := by decide +kernel
theorem d_X12_lays_118 : decode (zmc m_X12_lays) 118 = .ok (.goto 43, 3) := by decide +kernel
theorem d_X12_lays_121 : decode (zmc m_X12_lays) 121 = .ok (.aload_n 0, 1) := by decide +kernel
theorem d_X12_lays_122 : decode (zmc m_X12_lays) 122 = .ok (.getfield 30, 3) := by decide +kernel
theorem d_X12_lays_125 : decode (zmc m_X12_lays) 125 = .ok (.iload_n 2, 1) := by decide +kernel
theorem d_X12_lays_126 : decode (zmc m_X12_lays) 126 = .ok (.iload_n 3, 1) := by decide +kernel
theorem d_X12_lays_127 : decode (zmc m_X12_lays) 127 = .ok (.iastore, 1) := by decide +kernel
theorem d_X12_lays_128 : decode (zmc m_X12_lays) 128 = .ok (.goto 33, 3) := by decide +kernel
theorem d_X12_lays_131 : decode (zmc m_X12_lays) 131 = .ok (.aload_n 0, 1) := by decide +kernel
theorem d_X12_lays_132 : decode (zmc m_X12_lays) 132 = .ok (.getfield 33, 3) := by decide +kernel
theorem d_X12_lays_135 : decode (zmc m_X12_lays) 135 = .ok (.iload_n 2, 1) := by decide +kernel
theorem d_X12_lays_136 : decode (zmc m_X12_lays) 136 = .ok (.iload_n 3, 1) := by decide +kernel
theorem d_X12_lays_137 : decode (zmc m_X12_lays) 137 = .ok (.iastore, 1) := by decide +kernel
theorem d_X12_lays_138 : decode (zmc m_X12_lays) 138 = .ok (.goto 23, 3) := by decide +kernel
theorem d_X12_lays_141 : decode (zmc m_X12_lays) 141 = .ok (.aload_n 0, 1) := by decide +kernel
theorem d_X12_lays_142 : decode (zmc m_X12_lays) 142 = .ok (.getfield 36, 3) := by decide +kernel
theorem d_X12_lays_145 : decode (zmc m_X12_lays) 145 = .ok (.iload_n 2, 1) := by decide +kernel
theorem d_X12_lays_146 : decode (zmc m_X12_lays) 146 = .ok (.iload_n 3, 1) := by decide +kernel
theorem d_X12_lays_147 : decode (zmc m_X12_lays) 147 = .ok (.iastore, 1) := by decide +kernel
theorem d_X12_lays_148 : decode (zmc m_X12_lays) 148 = .ok (.goto 13, 3) := by decide +kernel
theorem d_X12_lays_151 : decode (zmc m_X12_lays) 151 = .ok (.aload_n 0, 1) := by decide +kernel
theorem d_X12_lays_152 : decode (zmc m_X12_lays) 152 = .ok (.getfield 39, 3) := by decide +kernel
theorem d_X12_lays_155 : decode (zmc m_X12_lays) 155 = .ok (.iload_n 1, 1) := by decide +kernel
theorem d_X12_lays_156 : decode (zmc m_X12_lays) 156 = .ok (.bipush 9, 2) := by decide +kernel
theorem d_X12_lays_158 : decode (zmc m_X12_lays) 158 = .ok (.isub, 1) := by decide +kernel
theorem d_X12_lays_159 : decode (zmc m_X12_lays) 159 = .ok (.iload_n 3, 1) := by decide +kernel
theorem d_X12_lays_160 : decode (zmc m_X12_lays) 160 = .ok (.iastore, 1) := by decide +kernel
theorem d_X12_lays_161 : decode (zmc m_X12_lays) 161 = .ok (.return_, 1) := by decide +kernel
theorem d_X12_valueAt_0 : decode (zmc m_X12_valueAt) 0 = .ok (.iload_n 1, 1) := by decide +kernel
theorem d_X12_valueAt_1 : decode (zmc m_X12_valueAt) 1 = .ok (.tableswitch 114 0 8 #[51, 58, 65, 72, 79, 86, 93, 100, 107], 51) := by decide +kernel
theorem d_X12_valueAt_52 : decode (zmc m_X12_valueAt) 52 = .ok (.aload_n 0, 1) := by decide +kernel
theorem d_X12_valueAt_53 : decode (zmc m_X12_valueAt) 53 = .ok (.getfield 9, 3) := by decide +kernel
theorem d_X12_valueAt_56 : decode (zmc m_X12_valueAt) 56 = .ok (.iload_n 2, 1) := by decide +kernel
theorem d_X12_valueAt_57 : decode (zmc m_X12_valueAt) 57 = .ok (.iaload, 1) := by decide +kernel
theorem d_X12_valueAt_58 : decode (zmc m_X12_valueAt) 58 = .ok (.ireturn, 1) := by decide +kernel
theorem d_X12_valueAt_59 : decode (zmc m_X12_valueAt) 59 = .ok (.aload_n 0, 1) := by decide +kernel
theorem d_X12_valueAt_60 : decode (zmc m_X12_valueAt) 60 = .ok (.getfield 15, 3) := by decide +kernel
theorem d_X12_valueAt_63 : decode (zmc m_X12_valueAt) 63 = .ok (.iload_n 2, 1) := by decide +kernel
theorem d_X12_valueAt_64 : decode (zmc m_X12_valueAt) 64 = .ok (.iaload, 1) := by decide +kernel
theorem d_X12_valueAt_65 : decode (zmc m_X12_valueAt) 65 = .ok (.ireturn, 1) := by decide +kernel
theorem d_X12_valueAt_66 : decode (zmc m_X12_valueAt) 66 = .ok (.aload_n 0, 1) := by decide +kernel
theorem d_X12_valueAt_67 : decode (zmc m_X12_valueAt) 67 = .ok (.getfield 18, 3) := by decide +kernel
theorem d_X12_valueAt_70 : decode (zmc m_X12_valueAt) 70 = .ok (.iload_n 2, 1) := by decide +kernel
theorem d_X12_valueAt_71 : decode (zmc m_X12_valueAt) 71 = .ok (.iaload, 1) := by decide +kernel
theorem d_X12_valueAt_72 : decode (zmc m_X12_valueAt) 72 = .ok (.ireturn, 1) := by decide +kernel
theorem d_X12_valueAt_73 : decode (zmc m_X12_valueAt) 73 = .ok (.aload_n 0, 1) := by decide +kernel
theorem d_X12_valueAt_74 : decode (zmc m_X12_valueAt) 74 = .ok (.getfield 21, 3) := by decide +kernel
theorem d_X12_valueAt_77 : decode (zmc m_X12_valueAt) 77 = .ok (.iload_n 2, 1) := by decide +kernel
theorem d_X12_valueAt_78 : decode (zmc m_X12_valueAt) 78 = .ok (.iaload, 1) := by decide +kernel
theorem d_X12_valueAt_79 : decode (zmc m_X12_valueAt) 79 = .ok (.ireturn, 1) := by decide +kernel
theorem d_X12_valueAt_80 : decode (zmc m_X12_valueAt) 80 = .ok (.aload_n 0, 1) := by decide +kernel
theorem d_X12_valueAt_81 : decode (zmc m_X12_valueAt) 81 = .ok (.getfield 24, 3) := by decide +kernel
theorem d_X12_valueAt_84 : decode (zmc m_X12_valueAt) 84 = .ok (.iload_n 2, 1) := by decide +kernel
theorem d_X12_valueAt_85 : decode (zmc m_X12_valueAt) 85 = .ok (.iaload, 1) := by decide +kernel
theorem d_X12_valueAt_86 : decode (zmc m_X12_valueAt) 86 = .ok (.ireturn, 1) := by decide +kernel
theorem d_X12_valueAt_87 : decode (zmc m_X12_valueAt) 87 = .ok (.aload_n 0, 1) := by decide +kernel
theorem d_X12_valueAt_88 : decode (zmc m_X12_valueAt) 88 = .ok (.getfield 27, 3) := by decide +kernel
theorem d_X12_valueAt_91 : decode (zmc m_X12_valueAt) 91 = .ok (.iload_n 2, 1) := by decide +kernel
theorem d_X12_valueAt_92 : decode (zmc m_X12_valueAt) 92 = .ok (.iaload, 1) := by decide +kernel
theorem d_X12_valueAt_93 : decode (zmc m_X12_valueAt) 93 = .ok (.ireturn, 1) := by decide +kernel
theorem d_X12_valueAt_94 : decode (zmc m_X12_valueAt) 94 = .ok (.aload_n 0, 1) := by decide +kernel
theorem d_X12_valueAt_95 : decode (zmc m_X12_valueAt) 95 = .ok (.getfield 30, 3) := by decide +kernel
theorem d_X12_valueAt_98 : decode (zmc m_X12_valueAt) 98 = .ok (.iload_n 2, 1) := by decide +kernel
theorem d_X12_valueAt_99 : decode (zmc m_X12_valueAt) 99 = .ok (.iaload, 1) := by decide +kernel
theorem d_X12_valueAt_100 : decode (zmc m_X12_valueAt) 100 = .ok (.ireturn, 1) := by decide +kernel
theorem d_X12_valueAt_101 : decode (zmc m_X12_valueAt) 101 = .ok (.aload_n 0, 1) := by decide +kernel
theorem d_X12_valueAt_102 : decode (zmc m_X12_valueAt) 102 = .ok (.getfield 33, 3) := by decide +kernel
theorem d_X12_valueAt_105 : decode (zmc m_X12_valueAt) 105 = .ok (.iload_n 2, 1) := by decide +kernel
theorem d_X12_valueAt_106 : decode (zmc m_X12_valueAt) 106 = .ok (.iaload, 1) := by decide +kernel
theorem d_X12_valueAt_107 : decode (zmc m_X12_valueAt) 107 = .ok (.ireturn, 1) := by decide +kernel
theorem d_X12_valueAt_108 : decode (zmc m_X12_valueAt) 108 = .ok (.aload_n 0, 1) := by decide +kernel
theorem d_X12_valueAt_109 : decode (zmc m_X12_valueAt) 109 = .ok (.getfield 36, 3) := by decide +kernel
theorem d_X12_valueAt_112 : decode (zmc m_X12_valueAt) 112 = .ok (.iload_n 2, 1) := by decide +kernel
theorem d_X12_valueAt_113 : decode (zmc m_X12_valueAt) 113 = .ok (.iaload, 1) := by decide +kernel
theorem d_X12_valueAt_114 : decode (zmc m_X12_valueAt) 114 = .ok (.ireturn, 1) := by decide +kernel
theorem d_X12_valueAt_115 : decode (zmc m_X12_valueAt) 115 = .ok (.aload_n 0, 1) := by decide +kernel
theorem d_X12_valueAt_116 : decode (zmc m_X12_valueAt) 116 = .ok (.getfield 39, 3) := by decide +kernel
theorem d_X12_valueAt_119 : decode (zmc m_X12_valueAt) 119 = .ok (.iload_n 1, 1) := by decide +kernel
theorem d_X12_valueAt_120 : decode (zmc m_X12_valueAt) 120 = .ok (.bipush 9, 2) := by decide +kernel
theorem d_X12_valueAt_122 : decode (zmc m_X12_valueAt) 122 = .ok (.isub, 1) := by decide +kernel
theorem d_X12_valueAt_123 : decode (zmc m_X12_valueAt) 123 = .ok (.iaload, 1) := by decide +kernel
theorem d_X12_valueAt_124 : decode (zmc m_X12_valueAt) 124 = .ok (.ireturn, 1) := by decide +kernel
/-! THE REFERENCE: changes -/
theorem zHold_at {ns nt nh : Nat} : zHold ns nt nh (nI 0) = ns ∧ zHold ns nt nh (nI 1) = ns ∧ zHold ns nt nh (nI 2) = ns ∧ zHold ns nt nh (nI 3) = ns ∧ zHold ns nt nh (nI 4) = ns ∧ zHold ns nt nh (nI 5) = ns ∧ zHold ns nt nh (nI 6) = nt ∧ zHold ns nt nh (nI 7) = nt ∧ zHold ns nt nh (nI 8) = nh ∧ zHold ns nt nh (nI 9) = 1 ∧ zHold ns nt nh (nI 10) = 1 ∧ zHold ns nt nh (nI 11) = 1 := ⟨rfl, rfl, rfl, rfl, rfl, rfl, rfl, rfl, rfl, rfl, rfl, rfl⟩
theorem zHold_9 {ns nt nh j k : Nat} (hj : j < 12) (h9 : 9 ≤ j) (hk : k < zHold ns nt nh (nI j)) : k = 0 := by
  obtain rfl | rfl | rfl : j = 9 ∨ j = 10 ∨ j = 11 := by omega
  · exact Nat.lt_one_iff.mp hk
  · exact Nat.lt_one_iff.mp hk
  · exact Nat.lt_one_iff.mp hk
theorem zMs_night {I V : Nat → Nat → Int32} (hM : zMs I V) {j : Nat} (hj : j < 12) (h9 : 9 ≤ j) : I 74 (j - 9) = V (3 + j) 0 := by
  obtain rfl | rfl | rfl : j = 9 ∨ j = 10 ∨ j = 11 := by omega
  · exact hM.2.2.1.1
  · exact hM.2.2.1.2.1
  · exact hM.2.2.1.2.2
theorem zMs_row {I V : Nat → Nat → Int32} (hM : zMs I V) {j : Nat} (hj : j < 9) : I (65 + j) = V (3 + j) := by
  match j, hj with
  | 0, _ => exact hM.2.1.1
  | 1, _ => exact hM.2.1.2.1
  | 2, _ => exact hM.2.1.2.2.1
  | 3, _ => exact hM.2.1.2.2.2.1
  | 4, _ => exact hM.2.1.2.2.2.2.1
  | 5, _ => exact hM.2.1.2.2.2.2.2.1
  | 6, _ => exact hM.2.1.2.2.2.2.2.2.1
  | 7, _ => exact hM.2.1.2.2.2.2.2.2.2.1
  | 8, _ => exact hM.2.1.2.2.2.2.2.2.2.2
theorem zMs_set {I V : Nat → Nat → Int32} (hM : zMs I V) {j k : Nat} {v : Int32} (hj : j < 9) : zMs (zup I (65 + j) (zup (I (65 + j)) k v)) (zup V (3 + j) (zup (V (3 + j)) k v)) := by
  have e := zMs_row hM hj
  rw [e]
  obtain ⟨⟨m1, m2, m3⟩, ⟨mc, mb, ms, ma, mu, mg, mf, mp, mn⟩, ⟨mm, md, mz⟩, ml⟩ := hM
  match j, hj with
  | 0, _ => exact ⟨⟨m1, m2, m3⟩, ⟨rfl, mb, ms, ma, mu, mg, mf, mp, mn⟩, ⟨mm, md, mz⟩, ml⟩
  | 1, _ => exact ⟨⟨m1, m2, m3⟩, ⟨mc, rfl, ms, ma, mu, mg, mf, mp, mn⟩, ⟨mm, md, mz⟩, ml⟩
  | 2, _ => exact ⟨⟨m1, m2, m3⟩, ⟨mc, mb, rfl, ma, mu, mg, mf, mp, mn⟩, ⟨mm, md, mz⟩, ml⟩
  | 3, _ => exact ⟨⟨m1, m2, m3⟩, ⟨mc, mb, ms, rfl, mu, mg, mf, mp, mn⟩, ⟨mm, md, mz⟩, ml⟩
  | 4, _ => exact ⟨⟨m1, m2, m3⟩, ⟨mc, mb, ms, ma, rfl, mg, mf, mp, mn⟩, ⟨mm, md, mz⟩, ml⟩
  | 5, _ => exact ⟨⟨m1, m2, m3⟩, ⟨mc, mb, ms, ma, mu, rfl, mf, mp, mn⟩, ⟨mm, md, mz⟩, ml⟩
  | 6, _ => exact ⟨⟨m1, m2, m3⟩, ⟨mc, mb, ms, ma, mu, mg, rfl, mp, mn⟩, ⟨mm, md, mz⟩, ml⟩
  | 7, _ => exact ⟨⟨m1, m2, m3⟩, ⟨mc, mb, ms, ma, mu, mg, mf, rfl, mn⟩, ⟨mm, md, mz⟩, ml⟩
  | 8, _ => exact ⟨⟨m1, m2, m3⟩, ⟨mc, mb, ms, ma, mu, mg, mf, mp, rfl⟩, ⟨mm, md, mz⟩, ml⟩
theorem zMs_setN {I V : Nat → Nat → Int32} (hM : zMs I V) {j : Nat} {v : Int32} (hj : j < 12) (h9 : 9 ≤ j) : zMs (zup I 74 (zup (I 74) (j - 9) v)) (zup V (3 + j) (zup (V (3 + j)) 0 v)) := by
  obtain ⟨⟨m1, m2, m3⟩, hr, ⟨mm, md, mz⟩, ml⟩ := hM
  obtain rfl | rfl | rfl : j = 9 ∨ j = 10 ∨ j = 11 := by omega
  · exact ⟨⟨m1, m2, m3⟩, hr, ⟨rfl, md, mz⟩, ml⟩
  · exact ⟨⟨m1, m2, m3⟩, hr, ⟨mm, rfl, mz⟩, ml⟩
  · exact ⟨⟨m1, m2, m3⟩, hr, ⟨mm, md, rfl⟩, ml⟩
theorem zSet_at {I : Nat → Nat → Int32} {ns nt nh j k : Nat} {v : Int32} (hns : ns ≤ 10) (hnt : nt ≤ 4) (hnh : nh ≤ 6) (hj : j < 12) (hk : k < zHold ns nt nh (nI j)) : zSetI I ns nt nh (nI j) (nI k) v = zup I (3 + j) (zup (I (3 + j)) k v) := by
  have h := zHold_le (w := nI j) hns hnt hnh
  rw [zSet_n hk (by omega) rfl, zcl_n (by omega)]
theorem zGet_at {I : Nat → Nat → Int32} {ns nt nh j k : Nat} (hns : ns ≤ 10) (hnt : nt ≤ 4) (hnh : nh ≤ 6) (hj : j < 12) (hk : k < zHold ns nt nh (nI j)) : zGet I ns nt nh (nI j) (nI k) = I (3 + j) k := by
  have h := zHold_le (w := nI j) hns hnt hnh
  rw [zGet_n hk (by omega) rfl, zcl_n (by omega)]
section S41
variable {g : zG} {l : Launch} {d : Nat} {I V : Nat → Nat → Int32} {L K : Nat → Nat → Int64} {fs : Nat × Nat × Option Nat} {ns nt nh : Nat} {pg : Option (List zLine)}
theorem sp_X12_valueAt (hd : 1 ≤ d) (hM : zMs I V) (hK : zSky V ns nt nh) {j k : Nat} (hj : j < 12) (hk : k < zHold ns nt nh (nI j)) : zPure g l d m_X12_valueAt [.ref 64, .int (nI j), .int (nI k)] I L fs (.int (V (3 + j) k)) := by
  obtain ⟨-, hns, hnt, hnh⟩ := hK
  have hkl := zHold_le (w := nI j) hns hnt hnh
  have row : ∀ i, i < 9 → nI j = nI i → j = i ∧ k < zHold ns nt nh (nI i) := fun i hi e => by
    obtain rfl := (nI_eq (by omega) (by omega)).mp e
    exact ⟨rfl, hk⟩
  refine zSp_of (lv := [(0, .ref 64), (1, .int (nI j)), (2, .int (nI k))]) k_X12_valueAt rfl (Nat.le_of_ble_eq_true rfl) ?_
  refine zIloadN d_X12_valueAt_0 rfl rfl (q := 1) rfl ?_
  rcases Decidable.em (nI j = (0 : Int32)) with s1_0 | s1_0
  · refine zTabAt s1_0 d_X12_valueAt_1 (by decide) (by decide) (off := 51) (by decide) (q := 52) (by decide) ?_
    obtain ⟨rfl, hk⟩ := row 0 (by decide) s1_0
    have hk : k < ns := hk
    refine zAloadN d_X12_valueAt_52 rfl rfl (q := 53) rfl ?_
    refine zGetR d_X12_valueAt_53 ff_X12_9 sh_64 (by decide) r_64_2 (q := 56) rfl ?_
    refine zIloadN d_X12_valueAt_56 rfl rfl (q := 57) rfl ?_
    refine zIald d_X12_valueAt_57 sh_65 (by decide) rfl (by omega) (q := 58) rfl ?_
    refine zIret d_X12_valueAt_58 rfl rfl rfl ?_
    exact zPi (congrFun (zMs_row hM (j := 0) (by decide)) k)
  rcases Decidable.em (nI j = (1 : Int32)) with s1_1 | s1_1
  · refine zTabAt s1_1 d_X12_valueAt_1 (by decide) (by decide) (off := 58) (by decide) (q := 59) (by decide) ?_
    obtain ⟨rfl, hk⟩ := row 1 (by decide) s1_1
    have hk : k < ns := hk
    refine zAloadN d_X12_valueAt_59 rfl rfl (q := 60) rfl ?_
    refine zGetR d_X12_valueAt_60 ff_X12_15 sh_64 (by decide) r_64_3 (q := 63) rfl ?_
    refine zIloadN d_X12_valueAt_63 rfl rfl (q := 64) rfl ?_
    refine zIald d_X12_valueAt_64 sh_66 (by decide) rfl (by omega) (q := 65) rfl ?_
    refine zIret d_X12_valueAt_65 rfl rfl rfl ?_
    exact zPi (congrFun (zMs_row hM (j := 1) (by decide)) k)
  rcases Decidable.em (nI j = (2 : Int32)) with s1_2 | s1_2
  · refine zTabAt s1_2 d_X12_valueAt_1 (by decide) (by decide) (off := 65) (by decide) (q := 66) (by decide) ?_
    obtain ⟨rfl, hk⟩ := row 2 (by decide) s1_2
    have hk : k < ns := hk
    refine zAloadN d_X12_valueAt_66 rfl rfl (q := 67) rfl ?_
    refine zGetR d_X12_valueAt_67 ff_X12_18 sh_64 (by decide) r_64_4 (q := 70) rfl ?_
    refine zIloadN d_X12_valueAt_70 rfl rfl (q := 71) rfl ?_
    refine zIald d_X12_valueAt_71 sh_67 (by decide) rfl (by omega) (q := 72) rfl ?_
    refine zIret d_X12_valueAt_72 rfl rfl rfl ?_
    exact zPi (congrFun (zMs_row hM (j := 2) (by decide)) k)
  rcases Decidable.em (nI j = (3 : Int32)) with s1_3 | s1_3
  · refine zTabAt s1_3 d_X12_valueAt_1 (by decide) (by decide) (off := 72) (by decide) (q := 73) (by decide) ?_
    obtain ⟨rfl, hk⟩ := row 3 (by decide) s1_3
    have hk : k < ns := hk
    refine zAloadN d_X12_valueAt_73 rfl rfl (q := 74) rfl ?_
    refine zGetR d_X12_valueAt_74 ff_X12_21 sh_64 (by decide) r_64_5 (q := 77) rfl ?_
    refine zIloadN d_X12_valueAt_77 rfl rfl (q := 78) rfl ?_
    refine zIald d_X12_valueAt_78 sh_68 (by decide) rfl (by omega) (q := 79) rfl ?_
    refine zIret d_X12_valueAt_79 rfl rfl rfl ?_
    exact zPi (congrFun (zMs_row hM (j := 3) (by decide)) k)
  rcases Decidable.em (nI j = (4 : Int32)) with s1_4 | s1_4
  · refine zTabAt s1_4 d_X12_valueAt_1 (by decide) (by decide) (off := 79) (by decide) (q := 80) (by decide) ?_
    obtain ⟨rfl, hk⟩ := row 4 (by decide) s1_4
    have hk : k < ns := hk
    refine zAloadN d_X12_valueAt_80 rfl rfl (q := 81) rfl ?_
    refine zGetR d_X12_valueAt_81 ff_X12_24 sh_64 (by decide) r_64_6 (q := 84) rfl ?_
    refine zIloadN d_X12_valueAt_84 rfl rfl (q := 85) rfl ?_
    refine zIald d_X12_valueAt_85 sh_69 (by decide) rfl (by omega) (q := 86) rfl ?_
    refine zIret d_X12_valueAt_86 rfl rfl rfl ?_
    exact zPi (congrFun (zMs_row hM (j := 4) (by decide)) k)
  rcases Decidable.em (nI j = (5 : Int32)) with s1_5 | s1_5
  · refine zTabAt s1_5 d_X12_valueAt_1 (by decide) (by decide) (off := 86) (by decide) (q := 87) (by decide) ?_
    obtain ⟨rfl, hk⟩ := row 5 (by decide) s1_5
    have hk : k < ns := hk
    refine zAloadN d_X12_valueAt_87 rfl rfl (q := 88) rfl ?_
    refine zGetR d_X12_valueAt_88 ff_X12_27 sh_64 (by decide) r_64_7 (q := 91) rfl ?_
    refine zIloadN d_X12_valueAt_91 rfl rfl (q := 92) rfl ?_
    refine zIald d_X12_valueAt_92 sh_70 (by decide) rfl (by omega) (q := 93) rfl ?_
    refine zIret d_X12_valueAt_93 rfl rfl rfl ?_
    exact zPi (congrFun (zMs_row hM (j := 5) (by decide)) k)
  rcases Decidable.em (nI j = (6 : Int32)) with s1_6 | s1_6
  · refine zTabAt s1_6 d_X12_valueAt_1 (by decide) (by decide) (off := 93) (by decide) (q := 94) (by decide) ?_
    obtain ⟨rfl, hk⟩ := row 6 (by decide) s1_6
    have hk : k < nt := hk
    refine zAloadN d_X12_valueAt_94 rfl rfl (q := 95) rfl ?_
    refine zGetR d_X12_valueAt_95 ff_X12_30 sh_64 (by decide) r_64_9 (q := 98) rfl ?_
    refine zIloadN d_X12_valueAt_98 rfl rfl (q := 99) rfl ?_
    refine zIald d_X12_valueAt_99 sh_71 (by decide) rfl (by omega) (q := 100) rfl ?_
    refine zIret d_X12_valueAt_100 rfl rfl rfl ?_
    exact zPi (congrFun (zMs_row hM (j := 6) (by decide)) k)
  rcases Decidable.em (nI j = (7 : Int32)) with s1_7 | s1_7
  · refine zTabAt s1_7 d_X12_valueAt_1 (by decide) (by decide) (off := 100) (by decide) (q := 101) (by decide) ?_
    obtain ⟨rfl, hk⟩ := row 7 (by decide) s1_7
    have hk : k < nt := hk
    refine zAloadN d_X12_valueAt_101 rfl rfl (q := 102) rfl ?_
    refine zGetR d_X12_valueAt_102 ff_X12_33 sh_64 (by decide) r_64_10 (q := 105) rfl ?_
    refine zIloadN d_X12_valueAt_105 rfl rfl (q := 106) rfl ?_
    refine zIald d_X12_valueAt_106 sh_72 (by decide) rfl (by omega) (q := 107) rfl ?_
    refine zIret d_X12_valueAt_107 rfl rfl rfl ?_
    exact zPi (congrFun (zMs_row hM (j := 7) (by decide)) k)
  rcases Decidable.em (nI j = (8 : Int32)) with s1_8 | s1_8
  · refine zTabAt s1_8 d_X12_valueAt_1 (by decide) (by decide) (off := 107) (by decide) (q := 108) (by decide) ?_
    obtain ⟨rfl, hk⟩ := row 8 (by decide) s1_8
    have hk : k < nh := hk
    refine zAloadN d_X12_valueAt_108 rfl rfl (q := 109) rfl ?_
    refine zGetR d_X12_valueAt_109 ff_X12_36 sh_64 (by decide) r_64_12 (q := 112) rfl ?_
    refine zIloadN d_X12_valueAt_112 rfl rfl (q := 113) rfl ?_
    refine zIald d_X12_valueAt_113 sh_73 (by decide) rfl (by omega) (q := 114) rfl ?_
    refine zIret d_X12_valueAt_114 rfl rfl rfl ?_
    exact zPi (congrFun (zMs_row hM (j := 8) (by decide)) k)
  refine zTabOut d_X12_valueAt_1 (by have := lv_neT s1_0 (a := 0) (by decide); have := lv_neT s1_1 (a := 1) (by decide); have := lv_neT s1_2 (a := 2) (by decide); have := lv_neT s1_3 (a := 3) (by decide); have := lv_neT s1_4 (a := 4) (by decide); have := lv_neT s1_5 (a := 5) (by decide); have := lv_neT s1_6 (a := 6) (by decide); have := lv_neT s1_7 (a := 7) (by decide); have := lv_neT s1_8 (a := 8) (by decide); omega) (q := 115) (by decide) ?_
  have h9 : 9 ≤ j := by
    have q0 : j ≠ 0 := fun e => s1_0 (congrArg nI e)
    have q1 : j ≠ 1 := fun e => s1_1 (congrArg nI e)
    have q2 : j ≠ 2 := fun e => s1_2 (congrArg nI e)
    have q3 : j ≠ 3 := fun e => s1_3 (congrArg nI e)
    have q4 : j ≠ 4 := fun e => s1_4 (congrArg nI e)
    have q5 : j ≠ 5 := fun e => s1_5 (congrArg nI e)
    have q6 : j ≠ 6 := fun e => s1_6 (congrArg nI e)
    have q7 : j ≠ 7 := fun e => s1_7 (congrArg nI e)
    have q8 : j ≠ 8 := fun e => s1_8 (congrArg nI e)
    omega
  obtain rfl := zHold_9 hj h9 hk
  refine zAloadN d_X12_valueAt_115 rfl rfl (q := 116) rfl ?_
  refine zGetR d_X12_valueAt_116 ff_X12_39 sh_64 (by decide) r_64_13 (q := 119) rfl ?_
  refine zIloadN d_X12_valueAt_119 rfl rfl (q := 120) rfl ?_
  refine zBipush d_X12_valueAt_120 (v := 9) bc_9 (q := 122) rfl ?_
  refine zIsub d_X12_valueAt_122 (q := 123) rfl ?_
  refine zIald d_X12_valueAt_123 sh_74 (by decide) (show nI j - nI 9 = nI (j - 9) from pk_sub h9) (by omega) (q := 124) rfl ?_
  refine zIret d_X12_valueAt_124 rfl rfl rfl ?_
  exact zPi (zMs_night hM hj h9)
theorem sp_X12_lays (hd : 3 ≤ d) (hM : zMs I V) (hK : zSky V ns nt nh) {j k : Nat} (hj : j < 12) (hk : k < zHold ns nt nh (nI j)) {v : Int32} : zSp g l d 100 m_X12_lays [.ref 64, .int (nI j), .int (nI k), .int v] (zU I L fs) (zV (fun w => ∃ J, (∀ a, a < 65 ∨ 74 < a → J a = I a) ∧ zMs J (zLay V ns nt nh (nI j) (nI k) v) ∧ w = zU J L fs)) := by
  have hK0 := hK
  obtain ⟨-, hns, hnt, hnh⟩ := hK
  have hkl := zHold_le (w := nI j) hns hnt hnh
  have row : ∀ i, i < 9 → nI j = nI i → j = i ∧ k < zHold ns nt nh (nI i) := fun i hi e => by
    obtain rfl := (nI_eq (by omega) (by omega)).mp e
    exact ⟨rfl, hk⟩
  have eS := zSet_at (I := V) (v := v) hns hnt hnh hj hk
  have eL : ¬ (nI j = 0 ∧ (¬ zfind (V 3) v ns 0 = -2 ∧ ¬ zfind (V 3) v ns 0 = nI k)) → zLay V ns nt nh (nI j) (nI k) v = zup V (3 + j) (zup (V (3 + j)) k v) := fun q => by unfold zLay; rw [if_neg q, eS]
  have fin : ∀ i, i < 9 → j = i → ¬ (nI j = 0 ∧ (¬ zfind (V 3) v ns 0 = -2 ∧ ¬ zfind (V 3) v ns 0 = nI k)) → ∃ J, (∀ a, a < 65 ∨ 74 < a → J a = I a) ∧ zMs J (zLay V ns nt nh (nI j) (nI k) v) ∧ zU (zup I (65 + i) (zup (I (65 + i)) k v)) L fs = zU J L fs := by
    rintro i hi rfl q
    rw [eL q]
    exact ⟨_, fun a ha => zup_ne (by omega), zMs_set hM hi, rfl⟩
  refine zSp_of (lv := [(0, .ref 64), (1, .int (nI j)), (2, .int (nI k)), (3, .int v)]) k_X12_lays rfl (Nat.le_of_ble_eq_true rfl) ?_
  refine zIloadN d_X12_lays_0 rfl rfl (q := 1) rfl ?_
  rcases Decidable.em (nI j = (0 : Int32)) with s1_0 | s1_0
  · refine zTabAt s1_0 d_X12_lays_1 (by decide) (by decide) (off := 51) (by decide) (q := 52) (by decide) ?_
    obtain ⟨e0, hk0⟩ := row 0 (by decide) s1_0
    have hk0 : k < ns := hk0
    refine zAloadN d_X12_lays_52 rfl rfl (q := 53) rfl ?_
    refine zIloadN d_X12_lays_53 rfl rfl (q := 54) rfl ?_
    refine zIloadN d_X12_lays_54 rfl rfl (q := 55) rfl ?_
    refine zCallVP d_X12_lays_55 ml_X12_160 k_X12_isFree ki_X12_isFree ks_X12_isFree (sp_X12_isFree (d := d - 1) (by omega) hM hK0) rfl rfl sh_64 (by decide) rfl (by decide) (Nat.le_of_ble_eq_true rfl) (by decide) (by omega) zns100 (q := 58) rfl ?_
    refine zIf_eq d_X12_lays_58 (tgt := 161) (q := 61) (by decide) rfl (fun h58 => ?_) (fun h58 => ?_)
    · refine zVret d_X12_lays_161 rfl rfl ?_
      refine ⟨rfl, ?_⟩
      first
      | exact fin 0 (by decide) e0 (fun q => bi_n0.mp h58 q.2)
      | exact ⟨I, fun a ha => rfl, (show zLay V ns nt nh (nI j) (nI k) v = V by unfold zLay; rw [if_pos ⟨s1_0, Decidable.not_not.mp (bi_0.mp h58)⟩]).symm ▸ hM, rfl⟩
      | exact fin 1 (by decide) e0 hne
      | exact fin 2 (by decide) e0 hne
      | exact fin 3 (by decide) e0 hne
      | exact fin 4 (by decide) e0 hne
      | exact fin 5 (by decide) e0 hne
      | exact fin 6 (by decide) e0 hne
      | exact fin 7 (by decide) e0 hne
      | exact fin 8 (by decide) e0 hne
      | (rw [eL hne]; subst hk0; exact ⟨_, fun a ha => zup_ne (by omega), zMs_setN hM hj h9, rfl⟩)
    · refine zAloadN d_X12_lays_61 rfl rfl (q := 62) rfl ?_
      refine zGetR d_X12_lays_62 ff_X12_9 sh_64 (by decide) r_64_2 (q := 65) rfl ?_
      refine zIloadN d_X12_lays_65 rfl rfl (q := 66) rfl ?_
      refine zIloadN d_X12_lays_66 rfl rfl (q := 67) rfl ?_
      refine zIast d_X12_lays_67 sh_65 (by decide) rfl (by omega) (q := 68) rfl ?_
      refine zGoto d_X12_lays_68 (q := 161) (by decide) ?_
      refine zVret d_X12_lays_161 rfl rfl ?_
      refine ⟨rfl, ?_⟩
      first
      | exact fin 0 (by decide) e0 (fun q => bi_n0.mp h58 q.2)
      | exact ⟨I, fun a ha => rfl, (show zLay V ns nt nh (nI j) (nI k) v = V by unfold zLay; rw [if_pos ⟨s1_0, Decidable.not_not.mp (bi_0.mp h58)⟩]).symm ▸ hM, rfl⟩
      | exact fin 1 (by decide) e0 hne
      | exact fin 2 (by decide) e0 hne
      | exact fin 3 (by decide) e0 hne
      | exact fin 4 (by decide) e0 hne
      | exact fin 5 (by decide) e0 hne
      | exact fin 6 (by decide) e0 hne
      | exact fin 7 (by decide) e0 hne
      | exact fin 8 (by decide) e0 hne
      | (rw [eL hne]; subst hk0; exact ⟨_, fun a ha => zup_ne (by omega), zMs_setN hM hj h9, rfl⟩)
  rcases Decidable.em (nI j = (1 : Int32)) with s1_1 | s1_1
  · refine zTabAt s1_1 d_X12_lays_1 (by decide) (by decide) (off := 70) (by decide) (q := 71) (by decide) ?_
    obtain ⟨e0, hk0⟩ := row 1 (by decide) s1_1
    have hk0 : k < ns := hk0
    have hne : ¬ (nI j = 0 ∧ (¬ zfind (V 3) v ns 0 = -2 ∧ ¬ zfind (V 3) v ns 0 = nI k)) := fun q => s1_0 q.1
    refine zAloadN d_X12_lays_71 rfl rfl (q := 72) rfl ?_
    refine zGetR d_X12_lays_72 ff_X12_15 sh_64 (by decide) r_64_3 (q := 75) rfl ?_
    refine zIloadN d_X12_lays_75 rfl rfl (q := 76) rfl ?_
    refine zIloadN d_X12_lays_76 rfl rfl (q := 77) rfl ?_
    refine zIast d_X12_lays_77 sh_66 (by decide) rfl (by omega) (q := 78) rfl ?_
    refine zGoto d_X12_lays_78 (q := 161) (by decide) ?_
    refine zVret d_X12_lays_161 rfl rfl ?_
    refine ⟨rfl, ?_⟩
    first
    | exact fin 0 (by decide) e0 (fun q => bi_n0.mp h58 q.2)
    | exact ⟨I, fun a ha => rfl, (show zLay V ns nt nh (nI j) (nI k) v = V by unfold zLay; rw [if_pos ⟨s1_0, Decidable.not_not.mp (bi_0.mp h58)⟩]).symm ▸ hM, rfl⟩
    | exact fin 1 (by decide) e0 hne
    | exact fin 2 (by decide) e0 hne
    | exact fin 3 (by decide) e0 hne
    | exact fin 4 (by decide) e0 hne
    | exact fin 5 (by decide) e0 hne
    | exact fin 6 (by decide) e0 hne
    | exact fin 7 (by decide) e0 hne
    | exact fin 8 (by decide) e0 hne
    | (rw [eL hne]; subst hk0; exact ⟨_, fun a ha => zup_ne (by omega), zMs_setN hM hj h9, rfl⟩)
  rcases Decidable.em (nI j = (2 : Int32)) with s1_2 | s1_2
  · refine zTabAt s1_2 d_X12_lays_1 (by decide) (by decide) (off := 80) (by decide) (q := 81) (by decide) ?_
    obtain ⟨e0, hk0⟩ := row 2 (by decide) s1_2
    have hk0 : k < ns := hk0
    have hne : ¬ (nI j = 0 ∧ (¬ zfind (V 3) v ns 0 = -2 ∧ ¬ zfind (V 3) v ns 0 = nI k)) := fun q => s1_0 q.1
    refine zAloadN d_X12_lays_81 rfl rfl (q := 82) rfl ?_
    refine zGetR d_X12_lays_82 ff_X12_18 sh_64 (by decide) r_64_4 (q := 85) rfl ?_
    refine zIloadN d_X12_lays_85 rfl rfl (q := 86) rfl ?_
    refine zIloadN d_X12_lays_86 rfl rfl (q := 87) rfl ?_
    refine zIast d_X12_lays_87 sh_67 (by decide) rfl (by omega) (q := 88) rfl ?_
    refine zGoto d_X12_lays_88 (q := 161) (by decide) ?_
    refine zVret d_X12_lays_161 rfl rfl ?_
    refine ⟨rfl, ?_⟩
    first
    | exact fin 0 (by decide) e0 (fun q => bi_n0.mp h58 q.2)
    | exact ⟨I, fun a ha => rfl, (show zLay V ns nt nh (nI j) (nI k) v = V by unfold zLay; rw [if_pos ⟨s1_0, Decidable.not_not.mp (bi_0.mp h58)⟩]).symm ▸ hM, rfl⟩
    | exact fin 1 (by decide) e0 hne
    | exact fin 2 (by decide) e0 hne
    | exact fin 3 (by decide) e0 hne
    | exact fin 4 (by decide) e0 hne
    | exact fin 5 (by decide) e0 hne
    | exact fin 6 (by decide) e0 hne
    | exact fin 7 (by decide) e0 hne
    | exact fin 8 (by decide) e0 hne
    | (rw [eL hne]; subst hk0; exact ⟨_, fun a ha => zup_ne (by omega), zMs_setN hM hj h9, rfl⟩)
  rcases Decidable.em (nI j = (3 : Int32)) with s1_3 | s1_3
  · refine zTabAt s1_3 d_X12_lays_1 (by decide) (by decide) (off := 90) (by decide) (q := 91) (by decide) ?_
    obtain ⟨e0, hk0⟩ := row 3 (by decide) s1_3
    have hk0 : k < ns := hk0
    have hne : ¬ (nI j = 0 ∧ (¬ zfind (V 3) v ns 0 = -2 ∧ ¬ zfind (V 3) v ns 0 = nI k)) := fun q => s1_0 q.1
    refine zAloadN d_X12_lays_91 rfl rfl (q := 92) rfl ?_
    refine zGetR d_X12_lays_92 ff_X12_21 sh_64 (by decide) r_64_5 (q := 95) rfl ?_
    refine zIloadN d_X12_lays_95 rfl rfl (q := 96) rfl ?_
    refine zIloadN d_X12_lays_96 rfl rfl (q := 97) rfl ?_
    refine zIast d_X12_lays_97 sh_68 (by decide) rfl (by omega) (q := 98) rfl ?_
    refine zGoto d_X12_lays_98 (q := 161) (by decide) ?_
    refine zVret d_X12_lays_161 rfl rfl ?_
    refine ⟨rfl, ?_⟩
    first
    | exact fin 0 (by decide) e0 (fun q => bi_n0.mp h58 q.2)
    | exact ⟨I, fun a ha => rfl, (show zLay V ns nt nh (nI j) (nI k) v = V by unfold zLay; rw [if_pos ⟨s1_0, Decidable.not_not.mp (bi_0.mp h58)⟩]).symm ▸ hM, rfl⟩
    | exact fin 1 (by decide) e0 hne
    | exact fin 2 (by decide) e0 hne
    | exact fin 3 (by decide) e0 hne
    | exact fin 4 (by decide) e0 hne
    | exact fin 5 (by decide) e0 hne
    | exact fin 6 (by decide) e0 hne
    | exact fin 7 (by decide) e0 hne
    | exact fin 8 (by decide) e0 hne
    | (rw [eL hne]; subst hk0; exact ⟨_, fun a ha => zup_ne (by omega), zMs_setN hM hj h9, rfl⟩)
  rcases Decidable.em (nI j = (4 : Int32)) with s1_4 | s1_4
  · refine zTabAt s1_4 d_X12_lays_1 (by decide) (by decide) (off := 100) (by decide) (q := 101) (by decide) ?_
    obtain ⟨e0, hk0⟩ := row 4 (by decide) s1_4
    have hk0 : k < ns := hk0
    have hne : ¬ (nI j = 0 ∧ (¬ zfind (V 3) v ns 0 = -2 ∧ ¬ zfind (V 3) v ns 0 = nI k)) := fun q => s1_0 q.1
    refine zAloadN d_X12_lays_101 rfl rfl (q := 102) rfl ?_
    refine zGetR d_X12_lays_102 ff_X12_24 sh_64 (by decide) r_64_6 (q := 105) rfl ?_
    refine zIloadN d_X12_lays_105 rfl rfl (q := 106) rfl ?_
    refine zIloadN d_X12_lays_106 rfl rfl (q := 107) rfl ?_
    refine zIast d_X12_lays_107 sh_69 (by decide) rfl (by omega) (q := 108) rfl ?_
    refine zGoto d_X12_lays_108 (q := 161) (by decide) ?_
    refine zVret d_X12_lays_161 rfl rfl ?_
    refine ⟨rfl, ?_⟩
    first
    | exact fin 0 (by decide) e0 (fun q => bi_n0.mp h58 q.2)
    | exact ⟨I, fun a ha => rfl, (show zLay V ns nt nh (nI j) (nI k) v = V by unfold zLay; rw [if_pos ⟨s1_0, Decidable.not_not.mp (bi_0.mp h58)⟩]).symm ▸ hM, rfl⟩
    | exact fin 1 (by decide) e0 hne
    | exact fin 2 (by decide) e0 hne
    | exact fin 3 (by decide) e0 hne
    | exact fin 4 (by decide) e0 hne
    | exact fin 5 (by decide) e0 hne
    | exact fin 6 (by decide) e0 hne
    | exact fin 7 (by decide) e0 hne
    | exact fin 8 (by decide) e0 hne
    | (rw [eL hne]; subst hk0; exact ⟨_, fun a ha => zup_ne (by omega), zMs_setN hM hj h9, rfl⟩)
  rcases Decidable.em (nI j = (5 : Int32)) with s1_5 | s1_5
  · refine zTabAt s1_5 d_X12_lays_1 (by decide) (by decide) (off := 110) (by decide) (q := 111) (by decide) ?_
    obtain ⟨e0, hk0⟩ := row 5 (by decide) s1_5
    have hk0 : k < ns := hk0
    have hne : ¬ (nI j = 0 ∧ (¬ zfind (V 3) v ns 0 = -2 ∧ ¬ zfind (V 3) v ns 0 = nI k)) := fun q => s1_0 q.1
    refine zAloadN d_X12_lays_111 rfl rfl (q := 112) rfl ?_
    refine zGetR d_X12_lays_112 ff_X12_27 sh_64 (by decide) r_64_7 (q := 115) rfl ?_
    refine zIloadN d_X12_lays_115 rfl rfl (q := 116) rfl ?_
    refine zIloadN d_X12_lays_116 rfl rfl (q := 117) rfl ?_
    refine zIast d_X12_lays_117 sh_70 (by decide) rfl (by omega) (q := 118) rfl ?_
    refine zGoto d_X12_lays_118 (q := 161) (by decide) ?_
    refine zVret d_X12_lays_161 rfl rfl ?_
    refine ⟨rfl, ?_⟩
    first
    | exact fin 0 (by decide) e0 (fun q => bi_n0.mp h58 q.2)
    | exact ⟨I, fun a ha => rfl, (show zLay V ns nt nh (nI j) (nI k) v = V by unfold zLay; rw [if_pos ⟨s1_0, Decidable.not_not.mp (bi_0.mp h58)⟩]).symm ▸ hM, rfl⟩
    | exact fin 1 (by decide) e0 hne
    | exact fin 2 (by decide) e0 hne
    | exact fin 3 (by decide) e0 hne
    | exact fin 4 (by decide) e0 hne
    | exact fin 5 (by decide) e0 hne
    | exact fin 6 (by decide) e0 hne
    | exact fin 7 (by decide) e0 hne
    | exact fin 8 (by decide) e0 hne
    | (rw [eL hne]; subst hk0; exact ⟨_, fun a ha => zup_ne (by omega), zMs_setN hM hj h9, rfl⟩)
  rcases Decidable.em (nI j = (6 : Int32)) with s1_6 | s1_6
  · refine zTabAt s1_6 d_X12_lays_1 (by decide) (by decide) (off := 120) (by decide) (q := 121) (by decide) ?_
    obtain ⟨e0, hk0⟩ := row 6 (by decide) s1_6
    have hk0 : k < nt := hk0
    have hne : ¬ (nI j = 0 ∧ (¬ zfind (V 3) v ns 0 = -2 ∧ ¬ zfind (V 3) v ns 0 = nI k)) := fun q => s1_0 q.1
    refine zAloadN d_X12_lays_121 rfl rfl (q := 122) rfl ?_
    refine zGetR d_X12_lays_122 ff_X12_30 sh_64 (by decide) r_64_9 (q := 125) rfl ?_
    refine zIloadN d_X12_lays_125 rfl rfl (q := 126) rfl ?_
    refine zIloadN d_X12_lays_126 rfl rfl (q := 127) rfl ?_
    refine zIast d_X12_lays_127 sh_71 (by decide) rfl (by omega) (q := 128) rfl ?_
    refine zGoto d_X12_lays_128 (q := 161) (by decide) ?_
    refine zVret d_X12_lays_161 rfl rfl ?_
    refine ⟨rfl, ?_⟩
    first
    | exact fin 0 (by decide) e0 (fun q => bi_n0.mp h58 q.2)
    | exact ⟨I, fun a ha => rfl, (show zLay V ns nt nh (nI j) (nI k) v = V by unfold zLay; rw [if_pos ⟨s1_0, Decidable.not_not.mp (bi_0.mp h58)⟩]).symm ▸ hM, rfl⟩
    | exact fin 1 (by decide) e0 hne
    | exact fin 2 (by decide) e0 hne
    | exact fin 3 (by decide) e0 hne
    | exact fin 4 (by decide) e0 hne
    | exact fin 5 (by decide) e0 hne
    | exact fin 6 (by decide) e0 hne
    | exact fin 7 (by decide) e0 hne
    | exact fin 8 (by decide) e0 hne
    | (rw [eL hne]; subst hk0; exact ⟨_, fun a ha => zup_ne (by omega), zMs_setN hM hj h9, rfl⟩)
  rcases Decidable.em (nI j = (7 : Int32)) with s1_7 | s1_7
  · refine zTabAt s1_7 d_X12_lays_1 (by decide) (by decide) (off := 130) (by decide) (q := 131) (by decide) ?_
    obtain ⟨e0, hk0⟩ := row 7 (by decide) s1_7
    have hk0 : k < nt := hk0
    have hne : ¬ (nI j = 0 ∧ (¬ zfind (V 3) v ns 0 = -2 ∧ ¬ zfind (V 3) v ns 0 = nI k)) := fun q => s1_0 q.1
    refine zAloadN d_X12_lays_131 rfl rfl (q := 132) rfl ?_
    refine zGetR d_X12_lays_132 ff_X12_33 sh_64 (by decide) r_64_10 (q := 135) rfl ?_
    refine zIloadN d_X12_lays_135 rfl rfl (q := 136) rfl ?_
    refine zIloadN d_X12_lays_136 rfl rfl (q := 137) rfl ?_
    refine zIast d_X12_lays_137 sh_72 (by decide) rfl (by omega) (q := 138) rfl ?_
    refine zGoto d_X12_lays_138 (q := 161) (by decide) ?_
    refine zVret d_X12_lays_161 rfl rfl ?_
    refine ⟨rfl, ?_⟩
    first
    | exact fin 0 (by decide) e0 (fun q => bi_n0.mp h58 q.2)
    | exact ⟨I, fun a ha => rfl, (show zLay V ns nt nh (nI j) (nI k) v = V by unfold zLay; rw [if_pos ⟨s1_0, Decidable.not_not.mp (bi_0.mp h58)⟩]).symm ▸ hM, rfl⟩
    | exact fin 1 (by decide) e0 hne
    | exact fin 2 (by decide) e0 hne
    | exact fin 3 (by decide) e0 hne
    | exact fin 4 (by decide) e0 hne
    | exact fin 5 (by decide) e0 hne
    | exact fin 6 (by decide) e0 hne
    | exact fin 7 (by decide) e0 hne
    | exact fin 8 (by decide) e0 hne
    | (rw [eL hne]; subst hk0; exact ⟨_, fun a ha => zup_ne (by omega), zMs_setN hM hj h9, rfl⟩)
  rcases Decidable.em (nI j = (8 : Int32)) with s1_8 | s1_8
  · refine zTabAt s1_8 d_X12_lays_1 (by decide) (by decide) (off := 140) (by decide) (q := 141) (by decide) ?_
    obtain ⟨e0, hk0⟩ := row 8 (by decide) s1_8
    have hk0 : k < nh := hk0
    have hne : ¬ (nI j = 0 ∧ (¬ zfind (V 3) v ns 0 = -2 ∧ ¬ zfind (V 3) v ns 0 = nI k)) := fun q => s1_0 q.1
    refine zAloadN d_X12_lays_141 rfl rfl (q := 142) rfl ?_
    refine zGetR d_X12_lays_142 ff_X12_36 sh_64 (by decide) r_64_12 (q := 145) rfl ?_
    refine zIloadN d_X12_lays_145 rfl rfl (q := 146) rfl ?_
    refine zIloadN d_X12_lays_146 rfl rfl (q := 147) rfl ?_
    refine zIast d_X12_lays_147 sh_73 (by decide) rfl (by omega) (q := 148) rfl ?_
    refine zGoto d_X12_lays_148 (q := 161) (by decide) ?_
    refine zVret d_X12_lays_161 rfl rfl ?_
    refine ⟨rfl, ?_⟩
    first
    | exact fin 0 (by decide) e0 (fun q => bi_n0.mp h58 q.2)
    | exact ⟨I, fun a ha => rfl, (show zLay V ns nt nh (nI j) (nI k) v = V by unfold zLay; rw [if_pos ⟨s1_0, Decidable.not_not.mp (bi_0.mp h58)⟩]).symm ▸ hM, rfl⟩
    | exact fin 1 (by decide) e0 hne
    | exact fin 2 (by decide) e0 hne
    | exact fin 3 (by decide) e0 hne
    | exact fin 4 (by decide) e0 hne
    | exact fin 5 (by decide) e0 hne
    | exact fin 6 (by decide) e0 hne
    | exact fin 7 (by decide) e0 hne
    | exact fin 8 (by decide) e0 hne
    | (rw [eL hne]; subst hk0; exact ⟨_, fun a ha => zup_ne (by omega), zMs_setN hM hj h9, rfl⟩)
  refine zTabOut d_X12_lays_1 (by have := lv_neT s1_0 (a := 0) (by decide); have := lv_neT s1_1 (a := 1) (by decide); have := lv_neT s1_2 (a := 2) (by decide); have := lv_neT s1_3 (a := 3) (by decide); have := lv_neT s1_4 (a := 4) (by decide); have := lv_neT s1_5 (a := 5) (by decide); have := lv_neT s1_6 (a := 6) (by decide); have := lv_neT s1_7 (a := 7) (by decide); have := lv_neT s1_8 (a := 8) (by decide); omega) (q := 151) (by decide) ?_
  have h9 : 9 ≤ j := by
    have q0 : j ≠ 0 := fun e => s1_0 (congrArg nI e)
    have q1 : j ≠ 1 := fun e => s1_1 (congrArg nI e)
    have q2 : j ≠ 2 := fun e => s1_2 (congrArg nI e)
    have q3 : j ≠ 3 := fun e => s1_3 (congrArg nI e)
    have q4 : j ≠ 4 := fun e => s1_4 (congrArg nI e)
    have q5 : j ≠ 5 := fun e => s1_5 (congrArg nI e)
    have q6 : j ≠ 6 := fun e => s1_6 (congrArg nI e)
    have q7 : j ≠ 7 := fun e => s1_7 (congrArg nI e)
    have q8 : j ≠ 8 := fun e => s1_8 (congrArg nI e)
    omega
  have hk0 := zHold_9 hj h9 hk
  have hne : ¬ (nI j = 0 ∧ (¬ zfind (V 3) v ns 0 = -2 ∧ ¬ zfind (V 3) v ns 0 = nI k)) := fun q => s1_0 q.1
  refine zAloadN d_X12_lays_151 rfl rfl (q := 152) rfl ?_
  refine zGetR d_X12_lays_152 ff_X12_39 sh_64 (by decide) r_64_13 (q := 155) rfl ?_
  refine zIloadN d_X12_lays_155 rfl rfl (q := 156) rfl ?_
  refine zBipush d_X12_lays_156 (v := 9) bc_9 (q := 158) rfl ?_
  refine zIsub d_X12_lays_158 (q := 159) rfl ?_
  refine zIloadN d_X12_lays_159 rfl rfl (q := 160) rfl ?_
  refine zIast d_X12_lays_160 sh_74 (by decide) (show nI j - nI 9 = nI (j - 9) from pk_sub h9) (by omega) (q := 161) rfl ?_
  refine zVret d_X12_lays_161 rfl rfl ?_
  refine ⟨rfl, ?_⟩
  first
  | exact fin 0 (by decide) e0 (fun q => bi_n0.mp h58 q.2)
  | exact ⟨I, fun a ha => rfl, (show zLay V ns nt nh (nI j) (nI k) v = V by unfold zLay; rw [if_pos ⟨s1_0, Decidable.not_not.mp (bi_0.mp h58)⟩]).symm ▸ hM, rfl⟩
  | exact fin 1 (by decide) e0 hne
  | exact fin 2 (by decide) e0 hne
  | exact fin 3 (by decide) e0 hne
  | exact fin 4 (by decide) e0 hne
  | exact fin 5 (by decide) e0 hne
  | exact fin 6 (by decide) e0 hne
  | exact fin 7 (by decide) e0 hne
  | exact fin 8 (by decide) e0 hne
  | (rw [eL hne]; subst hk0; exact ⟨_, fun a ha => zup_ne (by omega), zMs_setN hM hj h9, rfl⟩)
end S41

