theorem d_X12_fling_0 : decode (zmc m_X12_fling) 0 = .ok (.aload_n 0, 1) := by decide +kernel
theorem d_X12_fling_1 : decode (zmc m_X12_fling) 1 = .ok (.iload_n 1, 1) := by decide +kernel
theorem d_X12_fling_2 : decode (zmc m_X12_fling) 2 = .ok (.invokevirtual 261, 3) := by decide +kernel
theorem d_X12_fling_5 : decode (zmc m_X12_fling) 5 = .ok (.ifCond .ne 5, 3) := by decide +kernel
theorem d_X12_fling_8 : decode (zmc m_X12_fling) 8 = .ok (.iconst (-1), 1) := by decide +kernel
theorem d_X12_fling_9 : decode (zmc m_X12_fling) 9 = .ok (.ireturn, 1) := by decide +kernel
theorem d_X12_fling_10 : decode (zmc m_X12_fling) 10 = .ok (.iload_n 1, 1) := by decide +kernel
theorem d_X12_fling_11 : decode (zmc m_X12_fling) 11 = .ok (.bipush 10, 2) := by decide +kernel
theorem d_X12_fling_13 : decode (zmc m_X12_fling) 13 = .ok (.idiv, 1) := by decide +kernel
theorem d_X12_fling_14 : decode (zmc m_X12_fling) 14 = .ok (.istore_n 2, 1) := by decide +kernel
theorem d_X12_fling_15 : decode (zmc m_X12_fling) 15 = .ok (.iload_n 1, 1) := by decide +kernel
theorem d_X12_fling_16 : decode (zmc m_X12_fling) 16 = .ok (.bipush 10, 2) := by decide +kernel
theorem d_X12_fling_18 : decode (zmc m_X12_fling) 18 = .ok (.irem, 1) := by decide +kernel
theorem d_X12_fling_19 : decode (zmc m_X12_fling) 19 = .ok (.istore_n 3, 1) := by decide +kernel
theorem d_X12_fling_20 : decode (zmc m_X12_fling) 20 = .ok (.aload_n 0, 1) := by decide +kernel
theorem d_X12_fling_21 : decode (zmc m_X12_fling) 21 = .ok (.getfield 24, 3) := by decide +kernel
theorem d_X12_fling_24 : decode (zmc m_X12_fling) 24 = .ok (.iload_n 2, 1) := by decide +kernel
theorem d_X12_fling_25 : decode (zmc m_X12_fling) 25 = .ok (.iaload, 1) := by decide +kernel
theorem d_X12_fling_26 : decode (zmc m_X12_fling) 26 = .ok (.iconst 1, 1) := by decide +kernel
theorem d_X12_fling_27 : decode (zmc m_X12_fling) 27 = .ok (.if_icmp .eq 13, 3) := by decide +kernel
theorem d_X12_fling_30 : decode (zmc m_X12_fling) 30 = .ok (.aload_n 0, 1) := by decide +kernel
theorem d_X12_fling_31 : decode (zmc m_X12_fling) 31 = .ok (.getfield 27, 3) := by decide +kernel
theorem d_X12_fling_34 : decode (zmc m_X12_fling) 34 = .ok (.iload_n 2, 1) := by decide +kernel
theorem d_X12_fling_35 : decode (zmc m_X12_fling) 35 = .ok (.iaload, 1) := by decide +kernel
theorem d_X12_fling_36 : decode (zmc m_X12_fling) 36 = .ok (.iconst 1, 1) := by decide +kernel
theorem d_X12_fling_37 : decode (zmc m_X12_fling) 37 = .ok (.if_icmp .ne 6, 3) := by decide +kernel
theorem d_X12_fling_40 : decode (zmc m_X12_fling) 40 = .ok (.bipush (-5), 2) := by decide +kernel
theorem d_X12_fling_42 : decode (zmc m_X12_fling) 42 = .ok (.ireturn, 1) := by decide +kernel
theorem d_X12_fling_43 : decode (zmc m_X12_fling) 43 = .ok (.aload_n 0, 1) := by decide +kernel
theorem d_X12_fling_44 : decode (zmc m_X12_fling) 44 = .ok (.getfield 39, 3) := by decide +kernel
theorem d_X12_fling_47 : decode (zmc m_X12_fling) 47 = .ok (.iconst 2, 1) := by decide +kernel
theorem d_X12_fling_48 : decode (zmc m_X12_fling) 48 = .ok (.aload_n 0, 1) := by decide +kernel
theorem d_X12_fling_49 : decode (zmc m_X12_fling) 49 = .ok (.getfield 39, 3) := by decide +kernel
theorem d_X12_fling_52 : decode (zmc m_X12_fling) 52 = .ok (.iconst 2, 1) := by decide +kernel
theorem d_X12_fling_53 : decode (zmc m_X12_fling) 53 = .ok (.iaload, 1) := by decide +kernel
theorem d_X12_fling_54 : decode (zmc m_X12_fling) 54 = .ok (.ldc_w 354, 3) := by decide +kernel
theorem d_X12_fling_57 : decode (zmc m_X12_fling) 57 = .ok (.imul, 1) := by decide +kernel
theorem d_X12_fling_58 : decode (zmc m_X12_fling) 58 = .ok (.sipush 12345, 3) := by decide +kernel
theorem d_X12_fling_61 : decode (zmc m_X12_fling) 61 = .ok (.iadd, 1) := by decide +kernel
theorem d_X12_fling_62 : decode (zmc m_X12_fling) 62 = .ok (.iastore, 1) := by decide +kernel
theorem d_X12_fling_63 : decode (zmc m_X12_fling) 63 = .ok (.aload_n 0, 1) := by decide +kernel
theorem d_X12_fling_64 : decode (zmc m_X12_fling) 64 = .ok (.getfield 39, 3) := by decide +kernel
theorem d_X12_fling_67 : decode (zmc m_X12_fling) 67 = .ok (.iconst 2, 1) := by decide +kernel
theorem d_X12_fling_68 : decode (zmc m_X12_fling) 68 = .ok (.iaload, 1) := by decide +kernel
theorem d_X12_fling_69 : decode (zmc m_X12_fling) 69 = .ok (.bipush 8, 2) := by decide +kernel
theorem d_X12_fling_71 : decode (zmc m_X12_fling) 71 = .ok (.iushr, 1) := by decide +kernel
theorem d_X12_fling_72 : decode (zmc m_X12_fling) 72 = .ok (.bipush 12, 2) := by decide +kernel
theorem d_X12_fling_74 : decode (zmc m_X12_fling) 74 = .ok (.irem, 1) := by decide +kernel
theorem d_X12_fling_75 : decode (zmc m_X12_fling) 75 = .ok (.aload_n 0, 1) := by decide +kernel
theorem d_X12_fling_76 : decode (zmc m_X12_fling) 76 = .ok (.iload_n 2, 1) := by decide +kernel
theorem d_X12_fling_77 : decode (zmc m_X12_fling) 77 = .ok (.iload_n 3, 1) := by decide +kernel
theorem d_X12_fling_78 : decode (zmc m_X12_fling) 78 = .ok (.aload_n 0, 1) := by decide +kernel
theorem d_X12_fling_79 : decode (zmc m_X12_fling) 79 = .ok (.getfield 39, 3) := by decide +kernel
theorem d_X12_fling_82 : decode (zmc m_X12_fling) 82 = .ok (.iconst 0, 1) := by decide +kernel
theorem d_X12_fling_83 : decode (zmc m_X12_fling) 83 = .ok (.iaload, 1) := by decide +kernel
theorem d_X12_fling_84 : decode (zmc m_X12_fling) 84 = .ok (.invokevirtual 264, 3) := by decide +kernel
theorem d_X12_fling_87 : decode (zmc m_X12_fling) 87 = .ok (.if_icmp .ge 7, 3) := by decide +kernel
theorem d_X12_fling_90 : decode (zmc m_X12_fling) 90 = .ok (.iconst 1, 1) := by decide +kernel
theorem d_X12_fling_91 : decode (zmc m_X12_fling) 91 = .ok (.goto 4, 3) := by decide +kernel
theorem d_X12_fling_94 : decode (zmc m_X12_fling) 94 = .ok (.iconst 0, 1) := by decide +kernel
theorem d_X12_fling_95 : decode (zmc m_X12_fling) 95 = .ok (.istore 4, 2) := by decide +kernel
theorem d_X12_fling_97 : decode (zmc m_X12_fling) 97 = .ok (.aload_n 0, 1) := by decide +kernel
theorem d_X12_fling_98 : decode (zmc m_X12_fling) 98 = .ok (.getfield 24, 3) := by decide +kernel
theorem d_X12_fling_101 : decode (zmc m_X12_fling) 101 = .ok (.iload_n 2, 1) := by decide +kernel
theorem d_X12_fling_102 : decode (zmc m_X12_fling) 102 = .ok (.iload 4, 2) := by decide +kernel
theorem d_X12_fling_104 : decode (zmc m_X12_fling) 104 = .ok (.iastore, 1) := by decide +kernel
theorem d_X12_fling_105 : decode (zmc m_X12_fling) 105 = .ok (.aload_n 0, 1) := by decide +kernel
theorem d_X12_fling_106 : decode (zmc m_X12_fling) 106 = .ok (.aload_n 0, 1) := by decide +kernel
theorem d_X12_fling_107 : decode (zmc m_X12_fling) 107 = .ok (.getfield 33, 3) := by decide +kernel
theorem d_X12_fling_110 : decode (zmc m_X12_fling) 110 = .ok (.iload_n 3, 1) := by decide +kernel
theorem d_X12_fling_111 : decode (zmc m_X12_fling) 111 = .ok (.iaload, 1) := by decide +kernel
theorem d_X12_fling_112 : decode (zmc m_X12_fling) 112 = .ok (.invokevirtual 355, 3) := by decide +kernel
theorem d_X12_fling_115 : decode (zmc m_X12_fling) 115 = .ok (.aload_n 0, 1) := by decide +kernel
theorem d_X12_fling_116 : decode (zmc m_X12_fling) 116 = .ok (.getfield 95, 3) := by decide +kernel
theorem d_X12_fling_119 : decode (zmc m_X12_fling) 119 = .ok (.iconst 0, 1) := by decide +kernel
theorem d_X12_fling_120 : decode (zmc m_X12_fling) 120 = .ok (.dup2, 1) := by decide +kernel
theorem d_X12_fling_121 : decode (zmc m_X12_fling) 121 = .ok (.iaload, 1) := by decide +kernel
theorem d_X12_fling_122 : decode (zmc m_X12_fling) 122 = .ok (.iconst 1, 1) := by decide +kernel
theorem d_X12_fling_123 : decode (zmc m_X12_fling) 123 = .ok (.iadd, 1) := by decide +kernel
theorem d_X12_fling_124 : decode (zmc m_X12_fling) 124 = .ok (.iastore, 1) := by decide +kernel
theorem d_X12_fling_125 : decode (zmc m_X12_fling) 125 = .ok (.aload_n 0, 1) := by decide +kernel
theorem d_X12_fling_126 : decode (zmc m_X12_fling) 126 = .ok (.getfield 95, 3) := by decide +kernel
theorem d_X12_fling_129 : decode (zmc m_X12_fling) 129 = .ok (.iconst 1, 1) := by decide +kernel
theorem d_X12_fling_130 : decode (zmc m_X12_fling) 130 = .ok (.dup2, 1) := by decide +kernel
theorem d_X12_fling_131 : decode (zmc m_X12_fling) 131 = .ok (.iaload, 1) := by decide +kernel
theorem d_X12_fling_132 : decode (zmc m_X12_fling) 132 = .ok (.iload 4, 2) := by decide +kernel
theorem d_X12_fling_134 : decode (zmc m_X12_fling) 134 = .ok (.iadd, 1) := by decide +kernel
theorem d_X12_fling_135 : decode (zmc m_X12_fling) 135 = .ok (.iastore, 1) := by decide +kernel
theorem d_X12_fling_136 : decode (zmc m_X12_fling) 136 = .ok (.aload_n 0, 1) := by decide +kernel
theorem d_X12_fling_137 : decode (zmc m_X12_fling) 137 = .ok (.getfield 95, 3) := by decide +kernel
theorem d_X12_fling_140 : decode (zmc m_X12_fling) 140 = .ok (.iconst 4, 1) := by decide +kernel
theorem d_X12_fling_141 : decode (zmc m_X12_fling) 141 = .ok (.dup2, 1) := by decide +kernel
theorem d_X12_fling_142 : decode (zmc m_X12_fling) 142 = .ok (.iaload, 1) := by decide +kernel
theorem d_X12_fling_143 : decode (zmc m_X12_fling) 143 = .ok (.aload_n 0, 1) := by decide +kernel
theorem d_X12_fling_144 : decode (zmc m_X12_fling) 144 = .ok (.getfield 33, 3) := by decide +kernel
theorem d_X12_fling_147 : decode (zmc m_X12_fling) 147 = .ok (.iload_n 3, 1) := by decide +kernel
theorem d_X12_fling_148 : decode (zmc m_X12_fling) 148 = .ok (.iaload, 1) := by decide +kernel
theorem d_X12_fling_149 : decode (zmc m_X12_fling) 149 = .ok (.iadd, 1) := by decide +kernel
theorem d_X12_fling_150 : decode (zmc m_X12_fling) 150 = .ok (.iastore, 1) := by decide +kernel
theorem d_X12_fling_151 : decode (zmc m_X12_fling) 151 = .ok (.iload 4, 2) := by decide +kernel
theorem d_X12_fling_153 : decode (zmc m_X12_fling) 153 = .ok (.ireturn, 1) := by decide +kernel
theorem d_X12_led_0 : decode (zmc m_X12_led) 0 = .ok (.iload_n 1, 1) := by decide +kernel
theorem d_X12_led_1 : decode (zmc m_X12_led) 1 = .ok (.iconst 0, 1) := by decide +kernel
theorem d_X12_led_2 : decode (zmc m_X12_led) 2 = .ok (.iconst 4, 1) := by decide +kernel
theorem d_X12_led_3 : decode (zmc m_X12_led) 3 = .ok (.invokestatic 127, 3) := by decide +kernel
theorem d_X12_led_6 : decode (zmc m_X12_led) 6 = .ok (.ifCond .eq 12, 3) := by decide +kernel
theorem d_X12_led_9 : decode (zmc m_X12_led) 9 = .ok (.aload_n 0, 1) := by decide +kernel
theorem d_X12_led_10 : decode (zmc m_X12_led) 10 = .ok (.getfield 95, 3) := by decide +kernel
theorem d_X12_led_13 : decode (zmc m_X12_led) 13 = .ok (.iload_n 1, 1) := by decide +kernel
theorem d_X12_led_14 : decode (zmc m_X12_led) 14 = .ok (.iaload, 1) := by decide +kernel
theorem d_X12_led_15 : decode (zmc m_X12_led) 15 = .ok (.goto 4, 3) := by decide +kernel
theorem d_X12_led_18 : decode (zmc m_X12_led) 18 = .ok (.iconst (-1), 1) := by decide +kernel
theorem d_X12_led_19 : decode (zmc m_X12_led) 19 = .ok (.ireturn, 1) := by decide +kernel
theorem d_X12_passes_0 : decode (zmc m_X12_passes) 0 = .ok (.aload_n 0, 1) := by decide +kernel
theorem d_X12_passes_1 : decode (zmc m_X12_passes) 1 = .ok (.getfield 39, 3) := by decide +kernel
theorem d_X12_passes_4 : decode (zmc m_X12_passes) 4 = .ok (.iconst 0, 1) := by decide +kernel
theorem d_X12_passes_5 : decode (zmc m_X12_passes) 5 = .ok (.aload_n 0, 1) := by decide +kernel
theorem d_X12_passes_6 : decode (zmc m_X12_passes) 6 = .ok (.getfield 39, 3) := by decide +kernel
theorem d_X12_passes_9 : decode (zmc m_X12_passes) 9 = .ok (.iconst 0, 1) := by decide +kernel
theorem d_X12_passes_10 : decode (zmc m_X12_passes) 10 = .ok (.iaload, 1) := by decide +kernel
theorem d_X12_passes_11 : decode (zmc m_X12_passes) 11 = .ok (.iload_n 1, 1) := by decide +kernel
theorem d_X12_passes_12 : decode (zmc m_X12_passes) 12 = .ok (.iadd, 1) := by decide +kernel
theorem d_X12_passes_13 : decode (zmc m_X12_passes) 13 = .ok (.sipush 999, 3) := by decide +kernel
theorem d_X12_passes_16 : decode (zmc m_X12_passes) 16 = .ok (.if_icmp .le 9, 3) := by decide +kernel
theorem d_X12_passes_19 : decode (zmc m_X12_passes) 19 = .ok (.sipush 999, 3) := by decide +kernel
theorem d_X12_passes_22 : decode (zmc m_X12_passes) 22 = .ok (.goto 11, 3) := by decide +kernel
theorem d_X12_passes_25 : decode (zmc m_X12_passes) 25 = .ok (.aload_n 0, 1) := by decide +kernel
theorem d_X12_passes_26 : decode (zmc m_X12_passes) 26 = .ok (.getfield 39, 3) := by decide +kernel
theorem d_X12_passes_29 : decode (zmc m_X12_passes) 29 = .ok (.iconst 0, 1) := by decide +kernel
theorem d_X12_passes_30 : decode (zmc m_X12_passes) 30 = .ok (.iaload, 1) := by decide +kernel
theorem d_X12_passes_31 : decode (zmc m_X12_passes) 31 = .ok (.iload_n 1, 1) := by decide +kernel
theorem d_X12_passes_32 : decode (zmc m_X12_passes) 32 = .ok (.iadd, 1) := by decide +kernel
theorem d_X12_passes_33 : decode (zmc m_X12_passes) 33 = .ok (.iastore, 1) := by decide +kernel
theorem d_X12_passes_34 : decode (zmc m_X12_passes) 34 = .ok (.return_, 1) := by decide +kernel
theorem d_X12_pocket_0 : decode (zmc m_X12_pocket) 0 = .ok (.aload_n 0, 1) := by decide +kernel
theorem d_X12_pocket_1 : decode (zmc m_X12_pocket) 1 = .ok (.iload_n 1, 1) := by decide +kernel
theorem d_X12_pocket_2 : decode (zmc m_X12_pocket) 2 = .ok (.invokevirtual 134, 3) := by decide +kernel
theorem d_X12_pocket_5 : decode (zmc m_X12_pocket) 5 = .ok (.ifCond .ne 5, 3) := by decide +kernel
theorem d_X12_pocket_8 : decode (zmc m_X12_pocket) 8 = .ok (.iconst (-1), 1) := by decide +kernel
theorem d_X12_pocket_9 : decode (zmc m_X12_pocket) 9 = .ok (.ireturn, 1) := by decide +kernel
theorem d_X12_pocket_10 : decode (zmc m_X12_pocket) 10 = .ok (.aload_n 0, 1) := by decide +kernel
theorem d_X12_pocket_11 : decode (zmc m_X12_pocket) 11 = .ok (.getfield 27, 3) := by decide +kernel
theorem d_X12_pocket_14 : decode (zmc m_X12_pocket) 14 = .ok (.iload_n 1, 1) := by decide +kernel
theorem d_X12_pocket_15 : decode (zmc m_X12_pocket) 15 = .ok (.iaload, 1) := by decide +kernel
theorem d_X12_pocket_16 : decode (zmc m_X12_pocket) 16 = .ok (.iconst 1, 1) := by decide +kernel
theorem d_X12_pocket_17 : decode (zmc m_X12_pocket) 17 = .ok (.if_icmp .ne 6, 3) := by decide +kernel
theorem d_X12_pocket_20 : decode (zmc m_X12_pocket) 20 = .ok (.bipush (-5), 2) := by decide +kernel
theorem d_X12_pocket_22 : decode (zmc m_X12_pocket) 22 = .ok (.ireturn, 1) := by decide +kernel
theorem d_X12_pocket_23 : decode (zmc m_X12_pocket) 23 = .ok (.aload_n 0, 1) := by decide +kernel
theorem d_X12_pocket_24 : decode (zmc m_X12_pocket) 24 = .ok (.getfield 24, 3) := by decide +kernel
theorem d_X12_pocket_27 : decode (zmc m_X12_pocket) 27 = .ok (.iload_n 1, 1) := by decide +kernel
theorem d_X12_pocket_28 : decode (zmc m_X12_pocket) 28 = .ok (.iaload, 1) := by decide +kernel
theorem d_X12_pocket_29 : decode (zmc m_X12_pocket) 29 = .ok (.istore_n 2, 1) := by decide +kernel
theorem d_X12_pocket_30 : decode (zmc m_X12_pocket) 30 = .ok (.aload_n 0, 1) := by decide +kernel
theorem d_X12_pocket_31 : decode (zmc m_X12_pocket) 31 = .ok (.getfield 27, 3) := by decide +kernel
theorem d_X12_pocket_34 : decode (zmc m_X12_pocket) 34 = .ok (.iload_n 1, 1) := by decide +kernel
theorem d_X12_pocket_35 : decode (zmc m_X12_pocket) 35 = .ok (.iconst 1, 1) := by decide +kernel
theorem d_X12_pocket_36 : decode (zmc m_X12_pocket) 36 = .ok (.iastore, 1) := by decide +kernel
theorem d_X12_pocket_37 : decode (zmc m_X12_pocket) 37 = .ok (.aload_n 0, 1) := by decide +kernel
theorem d_X12_pocket_38 : decode (zmc m_X12_pocket) 38 = .ok (.getfield 24, 3) := by decide +kernel
theorem d_X12_pocket_41 : decode (zmc m_X12_pocket) 41 = .ok (.iload_n 1, 1) := by decide +kernel
theorem d_X12_pocket_42 : decode (zmc m_X12_pocket) 42 = .ok (.iconst 0, 1) := by decide +kernel
theorem d_X12_pocket_43 : decode (zmc m_X12_pocket) 43 = .ok (.iastore, 1) := by decide +kernel
theorem d_X12_pocket_44 : decode (zmc m_X12_pocket) 44 = .ok (.aload_n 0, 1) := by decide +kernel
theorem d_X12_pocket_45 : decode (zmc m_X12_pocket) 45 = .ok (.getfield 95, 3) := by decide +kernel
theorem d_X12_pocket_48 : decode (zmc m_X12_pocket) 48 = .ok (.iconst 3, 1) := by decide +kernel
theorem d_X12_pocket_49 : decode (zmc m_X12_pocket) 49 = .ok (.dup2, 1) := by decide +kernel
theorem d_X12_pocket_50 : decode (zmc m_X12_pocket) 50 = .ok (.iaload, 1) := by decide +kernel
theorem d_X12_pocket_51 : decode (zmc m_X12_pocket) 51 = .ok (.iconst 1, 1) := by decide +kernel
theorem d_X12_pocket_52 : decode (zmc m_X12_pocket) 52 = .ok (.iadd, 1) := by decide +kernel
theorem d_X12_pocket_53 : decode (zmc m_X12_pocket) 53 = .ok (.iastore, 1) := by decide +kernel
theorem d_X12_pocket_54 : decode (zmc m_X12_pocket) 54 = .ok (.iload_n 2, 1) := by decide +kernel
theorem d_X12_pocket_55 : decode (zmc m_X12_pocket) 55 = .ok (.ireturn, 1) := by decide +kernel
/-! THE REFERENCE: in deed -/
section S64
variable {g : zG} {l : Launch} {d : Nat} {I V : Nat → Nat → Int32} {L K : Nat → Nat → Int64} {fs : Nat × Nat × Option Nat} {ns nt nh nb : Nat} {pg : Option (List zLine)}
def zMin9 (x : Int32) : Int32 := if x < 999 then x else 999
theorem sp_X12_passes (hd : 1 ≤ d) {m : Int32} : zSp g l d 100 m_X12_passes [.ref 64, .int m] (zU I L fs) (zV (fun w => w = zU (zup I 74 (zup (I 74) 0 (zMin9 (I 74 0 + m)))) L fs)) := by
  refine zSp_of (lv := [(0, .ref 64), (1, .int m)]) k_X12_passes rfl (Nat.le_of_ble_eq_true rfl) ?_
  refine zAloadN d_X12_passes_0 rfl rfl (q := 1) rfl ?_
  refine zGetR d_X12_passes_1 ff_X12_39 sh_64 (by decide) r_64_13 (q := 4) rfl ?_
  refine zIconst d_X12_passes_4 (v := 0) ic_0 (q := 5) rfl ?_
  refine zAloadN d_X12_passes_5 rfl rfl (q := 6) rfl ?_
  refine zGetR d_X12_passes_6 ff_X12_39 sh_64 (by decide) r_64_13 (q := 9) rfl ?_
  refine zIconst d_X12_passes_9 (v := 0) ic_0 (q := 10) rfl ?_
  refine zIald d_X12_passes_10 sh_74 (by decide) (j := 0) rfl (by decide) (q := 11) rfl ?_
  refine zIloadN d_X12_passes_11 rfl rfl (q := 12) rfl ?_
  refine zIadd d_X12_passes_12 (q := 13) rfl ?_
  refine zSipush d_X12_passes_13 (v := 999) sc_999 (q := 16) rfl ?_
  refine zIcmp_le d_X12_passes_16 (tgt := 25) (q := 19) (by decide) rfl (fun h16 => ?_) (fun h16 => ?_)
  · have e : zMin9 (I 74 0 + m) = I 74 0 + m := by unfold zMin9; grind
    refine zAloadN d_X12_passes_25 rfl rfl (q := 26) rfl ?_
    refine zGetR d_X12_passes_26 ff_X12_39 sh_64 (by decide) r_64_13 (q := 29) rfl ?_
    refine zIconst d_X12_passes_29 (v := 0) ic_0 (q := 30) rfl ?_
    refine zIald d_X12_passes_30 sh_74 (by decide) (j := 0) rfl (by decide) (q := 31) rfl ?_
    refine zIloadN d_X12_passes_31 rfl rfl (q := 32) rfl ?_
    refine zIadd d_X12_passes_32 (q := 33) rfl ?_
    refine zIast d_X12_passes_33 sh_74 (by decide) (j := 0) rfl (by decide) (q := 34) rfl ?_
    refine zVret d_X12_passes_34 rfl rfl ?_
    exact ⟨rfl, by rw [e]⟩
  · have e : zMin9 (I 74 0 + m) = 999 := by unfold zMin9; grind
    refine zSipush d_X12_passes_19 (v := 999) sc_999 (q := 22) rfl ?_
    refine zGoto d_X12_passes_22 (q := 33) (by decide) ?_
    refine zIast d_X12_passes_33 sh_74 (by decide) (j := 0) rfl (by decide) (q := 34) rfl ?_
    refine zVret d_X12_passes_34 rfl rfl ?_
    exact ⟨rfl, by rw [e]⟩
theorem sp_X12_pocket (hd : 3 ≤ d) (hD : zMd I L V K pg) (hK : zSky V ns nt nh) (hB : zBd V ns nt nh) {s : Int32} : zSp g l d 100 m_X12_pocket [.ref 64, .int s] (zU I L fs) (zX (fun x w =>
    (¬ (0 ≤ s ∧ s < nI ns) ∧ x = -1 ∧ w = zU I L fs) ∨ ((0 ≤ s ∧ s < nI ns) ∧ ¬ V 8 s.toNatClampNeg = 0 ∧ x = -5 ∧ w = zU I L fs) ∨
    ((0 ≤ s ∧ s < nI ns) ∧ V 8 s.toNatClampNeg = 0 ∧ x = V 7 s.toNatClampNeg ∧ ∃ J, w = zU J L fs ∧ zFrm I J ∧ zMd J L (zup (zup (zup V 8 (zup (V 8) s.toNatClampNeg 1)) 7 (zup (V 7) s.toNatClampNeg 0)) 15 (zup (V 15) 3 (V 15 3 + 1))) K pg))) := by
  have hs := hK.2.1
  have hM := hD.1
  obtain ⟨⟨m1, m2, m3⟩, ⟨mc, mb, ms, ma, mu, mg, mf, mp, mn⟩, ⟨mm, md, mz⟩, ml⟩ := id hM
  refine zSp_of (lv := [(0, .ref 64), (1, .int s)]) k_X12_pocket rfl (Nat.le_of_ble_eq_true rfl) ?_
  refine zAloadN d_X12_pocket_0 rfl rfl (q := 1) rfl ?_
  refine zIloadN d_X12_pocket_1 rfl rfl (q := 2) rfl ?_
  refine zCallVP d_X12_pocket_2 ml_X12_134 k_X12_isStar ki_X12_isStar ks_X12_isStar (sp_X12_isStar (d := d - 1) (by omega) hM hK) rfl rfl sh_64 (by decide) rfl (by decide) (Nat.le_of_ble_eq_true rfl) (by decide) (by omega) zns100 (q := 5) rfl ?_
  refine zIf_ne d_X12_pocket_5 (tgt := 10) (q := 8) (by decide) rfl (fun h5 => ?_) (fun h5 => ?_)
  · have hc := bi_n0.mp h5
    obtain ⟨k, hk, rfl⟩ := zn1 (by omega) hc.1 hc.2
    rw [zcl_n (by omega)]
    refine zAloadN d_X12_pocket_10 rfl rfl (q := 11) rfl ?_
    refine zGetR d_X12_pocket_11 ff_X12_27 sh_64 (by decide) r_64_7 (q := 14) rfl ?_
    refine zIloadN d_X12_pocket_14 rfl rfl (q := 15) rfl ?_
    refine zIald d_X12_pocket_15 sh_70 (by decide) rfl (by omega) (q := 16) rfl ?_
    rw [mg]
    refine zIconst d_X12_pocket_16 (v := 1) ic_1 (q := 17) rfl ?_
    refine zIcmp_ne d_X12_pocket_17 (tgt := 23) (q := 20) (by decide) rfl (fun h17 => ?_) (fun h17 => ?_)
    · have hg : V 8 k = 0 := (zb_gone hB k).resolve_right h17
      refine zAloadN d_X12_pocket_23 rfl rfl (q := 24) rfl ?_
      refine zGetR d_X12_pocket_24 ff_X12_24 sh_64 (by decide) r_64_6 (q := 27) rfl ?_
      refine zIloadN d_X12_pocket_27 rfl rfl (q := 28) rfl ?_
      refine zIald d_X12_pocket_28 sh_69 (by decide) rfl (by omega) (q := 29) rfl ?_
      refine zIstoreN d_X12_pocket_29 rfl (by decide) rfl (q := 30) rfl ?_
      refine zAloadN d_X12_pocket_30 rfl rfl (q := 31) rfl ?_
      refine zGetR d_X12_pocket_31 ff_X12_27 sh_64 (by decide) r_64_7 (q := 34) rfl ?_
      refine zIloadN d_X12_pocket_34 rfl rfl (q := 35) rfl ?_
      refine zIconst d_X12_pocket_35 (v := 1) ic_1 (q := 36) rfl ?_
      refine zIast d_X12_pocket_36 sh_70 (by decide) rfl (by omega) (q := 37) rfl ?_
      refine zAloadN d_X12_pocket_37 rfl rfl (q := 38) rfl ?_
      refine zGetR d_X12_pocket_38 ff_X12_24 sh_64 (by decide) r_64_6 (q := 41) rfl ?_
      refine zIloadN d_X12_pocket_41 rfl rfl (q := 42) rfl ?_
      refine zIconst d_X12_pocket_42 (v := 0) ic_0 (q := 43) rfl ?_
      refine zIast d_X12_pocket_43 sh_69 (by decide) rfl (by omega) (q := 44) rfl ?_
      refine zAloadN d_X12_pocket_44 rfl rfl (q := 45) rfl ?_
      refine zGetR d_X12_pocket_45 ff_X12_95 sh_64 (by decide) r_64_41 (q := 48) rfl ?_
      refine zIconst d_X12_pocket_48 (v := 3) ic_3 (q := 49) rfl ?_
      refine zDup2 d_X12_pocket_49 rfl rfl (q := 50) rfl ?_
      refine zIald d_X12_pocket_50 sh_92 (by decide) (j := 3) rfl (by decide) (q := 51) rfl ?_
      refine zIconst d_X12_pocket_51 (v := 1) ic_1 (q := 52) rfl ?_
      refine zIadd d_X12_pocket_52 (q := 53) rfl ?_
      refine zIast d_X12_pocket_53 sh_92 (by decide) (j := 3) rfl (by decide) (q := 54) rfl ?_
      refine zIloadN d_X12_pocket_54 rfl rfl (q := 55) rfl ?_
      refine zIret d_X12_pocket_55 rfl rfl rfl ?_
      refine ⟨_, rfl, Or.inr (Or.inr ⟨hc, hg, congrFun mu k, _, rfl, zFrm_up (zFrm_up (zFrm_up zFrm_refl (by decide)) (by decide)) (by decide), ?_⟩)⟩
      refine zMd_s (I := I) (V := V) (fun a h1 h2 h3 => by rw [zup_ne (by omega), zup_ne (by omega), zup_ne (by omega)]) (fun _ _ _ _ => rfl) (fun a ha => by rw [zup_ne (by omega), zup_ne (by omega), zup_ne (by omega)]) ?_ hD
      refine ⟨⟨m1, m2, m3⟩, ⟨mc, mb, ms, ma, ?_, ?_, mf, mp, mn⟩, ⟨mm, md, mz⟩, ?_⟩
      · show zup (I 69) k 0 = zup (V 7) k 0; rw [mu]
      · show zup (I 70) k 1 = zup (V 8) k 1; rw [mg]
      · show zup (I 92) 3 (I 92 3 + 1) = zup (V 15) 3 (V 15 3 + 1); rw [ml]
    · have hg : ¬ V 8 k = 0 := by rw [h17]; decide
      refine zBipush d_X12_pocket_20 (v := -5) bc_m5 (q := 22) rfl ?_
      refine zIret d_X12_pocket_22 rfl rfl rfl ?_
      exact ⟨_, rfl, Or.inr (Or.inl ⟨hc, hg, rfl, rfl⟩)⟩
  · have hc := bi_0.mp h5
    refine zIconst d_X12_pocket_8 (v := -1) ic_m1 (q := 9) rfl ?_
    refine zIret d_X12_pocket_9 rfl rfl rfl ?_
    exact ⟨_, rfl, Or.inl ⟨hc, rfl, rfl⟩⟩
theorem sp_X12_led (hd : 2 ≤ d) (hM : zMs I V) {k : Int32} : zPure g l d m_X12_led [.ref 64, .int k] I L fs (.int (if 0 ≤ k ∧ k < 5 then V 15 k.toNatClampNeg else -1)) := by
  have ml := hM.2.2.2
  refine zSp_of (lv := [(0, .ref 64), (1, .int k)]) k_X12_led rfl (Nat.le_of_ble_eq_true rfl) ?_
  refine zIloadN d_X12_led_0 rfl rfl (q := 1) rfl ?_
  refine zIconst d_X12_led_1 (v := 0) ic_0 (q := 2) rfl ?_
  refine zIconst d_X12_led_2 (v := 4) ic_4 (q := 3) rfl ?_
  refine zCallSP d_X12_led_3 ml_X12_127 k_X12_in kt_X12_in (sp_X12_in (d := d - 1) (by omega) ) rfl rfl (Nat.le_of_ble_eq_true rfl) (by decide) (by omega) zns100 (q := 6) rfl ?_
  refine zIf_eq d_X12_led_6 (tgt := 18) (q := 9) (by decide) rfl (fun h6 => ?_) (fun h6 => ?_)
  · have hc := bi_0.mp h6
    rw [if_neg (fun z => hc ⟨z.1, by have := z.2; grind⟩)]
    refine zIconst d_X12_led_18 (v := -1) ic_m1 (q := 19) rfl ?_
    refine zIret d_X12_led_19 rfl rfl rfl ?_
    first | exact zPi rfl | exact zPi (congrFun ml j)
  · have hc := bi_n0.mp h6
    obtain ⟨j, hj, rfl⟩ := zn1 (x := k) (n := 5) (by omega) hc.1 (by have := hc.2; have e5 : nI 5 = 5 := rfl; grind)
    rw [if_pos ⟨hc.1, by have := hc.2; grind⟩, zcl_n (by omega)]
    refine zAloadN d_X12_led_9 rfl rfl (q := 10) rfl ?_
    refine zGetR d_X12_led_10 ff_X12_95 sh_64 (by decide) r_64_41 (q := 13) rfl ?_
    refine zIloadN d_X12_led_13 rfl rfl (q := 14) rfl ?_
    refine zIald d_X12_led_14 sh_92 (by decide) rfl hj (q := 15) rfl ?_
    refine zGoto d_X12_led_15 (q := 19) (by decide) ?_
    refine zIret d_X12_led_19 rfl rfl rfl ?_
    first | exact zPi rfl | exact zPi (congrFun ml j)
theorem sp_X12_fling0 (hd : 4 ≤ d) (hM : zMs I V) (hK : zSky V ns nt nh) {st : Int32} (hc : ¬ zThr ns nt st) : zPure g l d m_X12_fling [.ref 64, .int st] I L fs (.int (-1)) := by
  refine zSp_of (lv := [(0, .ref 64), (1, .int st)]) k_X12_fling rfl (Nat.le_of_ble_eq_true rfl) ?_
  refine zAloadN d_X12_fling_0 rfl rfl (q := 1) rfl ?_
  refine zIloadN d_X12_fling_1 rfl rfl (q := 2) rfl ?_
  refine zCallVP d_X12_fling_2 ml_X12_261 k_X12_areStarThrower ki_X12_areStarThrower ks_X12_areStarThrower (sp_X12_areStarThrower (d := d - 1) (by omega) hM hK) rfl rfl sh_64 (by decide) rfl (by decide) (Nat.le_of_ble_eq_true rfl) (by decide) (by omega) zns100 (q := 5) rfl ?_
  refine zIf_ne d_X12_fling_5 (tgt := 10) (q := 8) (by decide) rfl (fun h => absurd h (not_not_intro (bi_f hc))) (fun h5 => ?_)
  refine zIconst d_X12_fling_8 (v := -1) ic_m1 (q := 9) rfl ?_
  refine zIret d_X12_fling_9 rfl rfl rfl ?_
  exact zPi rfl
theorem sp_X12_fling (hd : 5 ≤ d) (hD : zMd I L V K pg) (hK : zSky V ns nt nh) (hB : zBd V ns nt nh) {st : Int32} (hc : zThr ns nt st) {s t : Nat} (hs : s < ns) (ht : t < nt) (e1 : st / 10 = nI s) (e2 : st - st / 10 * 10 = nI t) : zSp g l d 100 m_X12_fling [.ref 64, .int st] (zU I L fs) (zX (fun x w =>
      (¬ (V 7 s = 0 ∧ V 8 s = 0) ∧ x = -5 ∧ w = zU I L fs) ∨ ((V 7 s = 0 ∧ V 8 s = 0) ∧ x = bi (zDraw (zNx (V 14 0)) < zOdds pg (zEn V s t (V 12 0))) ∧
        ∃ J, w = zU J L fs ∧ zFrm I J ∧ zMd J L (zFlI V s t x (zNx (V 14 0))) K pg))) := by
  have h10 := hK.2.1
  have h4 := hK.2.2.1
  have hM := hD.1
  obtain ⟨⟨m1, m2, m3⟩, ⟨mc, mb, ms, ma, mu, mg, mf, mp, mn⟩, ⟨mm, md, mz⟩, ml⟩ := id hM
  have tail : ∀ x, x = bi (zDraw (zNx (V 14 0)) < zOdds pg (zEn V s t (V 12 0))) → (V 7 s = 0 ∧ V 8 s = 0) → ∀ J, (∀ a, a ≠ 85 → a ≠ 86 → J a = (zup I 74 (zup (I 74) 2 (zNx (V 14 0)))) a) → zA g l d m_X12_fling J L fs 97 [(4, .int x), (2, .int (nI s)), (3, .int (nI t)), (0, .ref 64)] (zX (fun x w =>
      (¬ (V 7 s = 0 ∧ V 8 s = 0) ∧ x = -5 ∧ w = zU I L fs) ∨ ((V 7 s = 0 ∧ V 8 s = 0) ∧ x = bi (zDraw (zNx (V 14 0)) < zOdds pg (zEn V s t (V 12 0))) ∧
        ∃ J, w = zU J L fs ∧ zFrm I J ∧ zMd J L (zFlI V s t x (zNx (V 14 0))) K pg))) := by
    intro x ex hfree J hJ
    have jp : J 72 = V 10 := by rw [hJ _ (by decide) (by decide)]; exact mp
    have jl : J 92 = V 15 := by rw [hJ _ (by decide) (by decide)]; exact ml
    have j74 : J 74 = zup (I 74) 2 (zNx (V 14 0)) := by rw [hJ _ (by decide) (by decide)]; rfl
    have hV : ∀ a, 15 < a → zFlI V s t x (zNx (V 14 0)) a = V a := fun a ha => by unfold zFlI zGoOn; rw [zup_ne (by omega), zup_ne (by omega), zup_ne (by omega), zup_ne (by omega), zup_ne (by omega), zup_ne (by omega)]
    have KK : ∀ W : Nat → Nat → Int32, W 69 = zup (V 7) s x → W 74 = zup (zup (I 74) 2 (zNx (V 14 0))) 0 (zMin9 (V 12 0 + V 10 t)) → W 92 = V 15 → (∀ a, a ≠ 69 → a ≠ 74 → a ≠ 85 → a ≠ 86 → W a = I a) → zX (fun x w =>
      (¬ (V 7 s = 0 ∧ V 8 s = 0) ∧ x = -5 ∧ w = zU I L fs) ∨ ((V 7 s = 0 ∧ V 8 s = 0) ∧ x = bi (zDraw (zNx (V 14 0)) < zOdds pg (zEn V s t (V 12 0))) ∧
        ∃ J, w = zU J L fs ∧ zFrm I J ∧ zMd J L (zFlI V s t x (zNx (V 14 0))) K pg)) (some (.int x)) (zU (zup W 92 (zup (zup (zup (V 15) 0 (V 15 0 + 1)) 1 ((zup (V 15) 0 (V 15 0 + 1)) 1 + x)) 4 ((zup (zup (V 15) 0 (V 15 0 + 1)) 1 ((zup (V 15) 0 (V 15 0 + 1)) 1 + x)) 4 + V 10 t))) L fs) := by
      intro W w69 w74 w92 wo
      refine ⟨_, rfl, Or.inr ⟨hfree, ex, _, rfl, fun a ha => by rw [zup_ne (by omega), wo a (by omega) (by omega) (by omega) (by omega)], ?_⟩⟩
      obtain ⟨J2, hJ2⟩ : ∃ J2 : Nat → Nat → Int32, J2 = zup (zup (zup I 69 (zup (V 7) s x)) 74 (zup (zup (I 74) 2 (zNx (V 14 0))) 0 (zMin9 (V 12 0 + V 10 t)))) 92 (zup (zup (zup (V 15) 0 (V 15 0 + 1)) 1 ((zup (V 15) 0 (V 15 0 + 1)) 1 + x)) 4 ((zup (zup (V 15) 0 (V 15 0 + 1)) 1 ((zup (V 15) 0 (V 15 0 + 1)) 1 + x)) 4 + V 10 t)) := ⟨_, rfl⟩
      have hD2 : zMd J2 L (zFlI V s t x (zNx (V 14 0))) K pg := by
        refine zMd_s (I := I) (V := V) (fun a h1 h2 h3 => by rw [hJ2, zup_ne (by omega), zup_ne (by omega), zup_ne (by omega)]) (fun _ _ _ _ => by rw [hJ2]; rfl) hV ?_ hD
        rw [hJ2]
        exact ⟨⟨m1, m2, m3⟩, ⟨mc, mb, ms, ma, rfl, mg, mf, mp, mn⟩, ⟨rfl, md, rfl⟩, rfl⟩
      refine zScr_d (I := J2) ⟨fun a h1 h2 => ?_, fun k h1 h2 => ?_⟩ hD2
      · rw [hJ2]
        by_cases c1 : a = 92
        · subst c1; rw [zup_eq, zup_eq]
        · rw [zup_ne c1, zup_ne c1]
          by_cases c2 : a = 74
          · subst c2; rw [zup_eq, w74]
          · rw [zup_ne c2]
            by_cases c3 : a = 69
            · subst c3; rw [zup_eq, w69]
            · rw [zup_ne c3, wo a c3 c2 (by omega) (by omega)]
      · rw [hJ2, zup_ne (by decide), wo 64 (by decide) (by decide) (by decide) (by decide)]; rfl
    refine zAloadN d_X12_fling_97 rfl rfl (q := 98) rfl ?_
    refine zGetR d_X12_fling_98 ff_X12_24 sh_64 (by decide) r_64_6 (q := 101) rfl ?_
    refine zIloadN d_X12_fling_101 rfl rfl (q := 102) rfl ?_
    refine zIload d_X12_fling_102 rfl (q := 104) rfl ?_
    refine zIast d_X12_fling_104 sh_69 (by decide) rfl (by omega) (q := 105) rfl ?_
    refine zAloadN d_X12_fling_105 rfl rfl (q := 106) rfl ?_
    refine zAloadN d_X12_fling_106 rfl rfl (q := 107) rfl ?_
    refine zGetR d_X12_fling_107 ff_X12_33 sh_64 (by decide) r_64_10 (q := 110) rfl ?_
    refine zIloadN d_X12_fling_110 rfl rfl (q := 111) rfl ?_
    refine zIald d_X12_fling_111 sh_72 (by decide) rfl (by omega) (q := 112) rfl ?_
    rw [show (zup J 69 (zup (J 69) s x)) 72 t = V 10 t from congrFun jp t]
    refine zCallVV d_X12_fling_112 ml_X12_355 k_X12_passes ki_X12_passes ks_X12_passes (sp_X12_passes (d := d - 1) (by omega)) rfl rfl sh_64 (by decide) rfl (by decide) (Nat.le_of_ble_eq_true rfl) (by decide) (by omega) zns100 (q := 115) rfl (fun w' hw' => ?_)
    subst hw'
    obtain ⟨W, hW⟩ : ∃ W : Nat → Nat → Int32, W = zup (zup J 69 (zup (J 69) s x)) 74 (zup ((zup J 69 (zup (J 69) s x)) 74) 0 (zMin9 ((zup J 69 (zup (J 69) s x)) 74 0 + V 10 t))) := ⟨_, rfl⟩
    rw [← hW]
    have w92 : W 92 = V 15 := by rw [hW]; exact jl
    have w72 : ∀ G, (zup W 92 G) 72 t = V 10 t := fun G => by rw [hW]; exact congrFun jp t
    have w69 : W 69 = zup (V 7) s x := by rw [hW]; show zup (J 69) s x = _; rw [hJ 69 (by decide) (by decide)]; show zup (I 69) s x = _; rw [mu]
    have w74 : W 74 = zup (zup (I 74) 2 (zNx (V 14 0))) 0 (zMin9 (V 12 0 + V 10 t)) := by rw [hW]; show zup (J 74) 0 (zMin9 (J 74 0 + V 10 t)) = _; rw [j74, show (zup (I 74) 2 (zNx (V 14 0))) 0 = V 12 0 from mm]
    have wo : ∀ a, a ≠ 69 → a ≠ 74 → a ≠ 85 → a ≠ 86 → W a = I a := fun a h1 h2 h3 h4 => by rw [hW, zup_ne h2, zup_ne h1, hJ a h3 h4, zup_ne h2]
    refine zAloadN d_X12_fling_115 rfl rfl (q := 116) rfl ?_
    refine zGetR d_X12_fling_116 ff_X12_95 sh_64 (by decide) r_64_41 (q := 119) rfl ?_
    refine zIconst d_X12_fling_119 (v := 0) ic_0 (q := 120) rfl ?_
    refine zDup2 d_X12_fling_120 rfl rfl (q := 121) rfl ?_
    refine zIald d_X12_fling_121 sh_92 (by decide) (j := 0) rfl (by decide) (q := 122) rfl ?_
    rw [w92]
    refine zIconst d_X12_fling_122 (v := 1) ic_1 (q := 123) rfl ?_
    refine zIadd d_X12_fling_123 (q := 124) rfl ?_
    refine zIast d_X12_fling_124 sh_92 (by decide) (j := 0) rfl (by decide) (q := 125) rfl ?_
    refine zAloadN d_X12_fling_125 rfl rfl (q := 126) rfl ?_
    refine zGetR d_X12_fling_126 ff_X12_95 sh_64 (by decide) r_64_41 (q := 129) rfl ?_
    refine zIconst d_X12_fling_129 (v := 1) ic_1 (q := 130) rfl ?_
    refine zDup2 d_X12_fling_130 rfl rfl (q := 131) rfl ?_
    refine zIald d_X12_fling_131 sh_92 (by decide) (j := 1) rfl (by decide) (q := 132) rfl ?_
    rw [zup_eq]
    refine zIload d_X12_fling_132 rfl (q := 134) rfl ?_
    refine zIadd d_X12_fling_134 (q := 135) rfl ?_
    refine zIast d_X12_fling_135 sh_92 (by decide) (j := 1) rfl (by decide) (q := 136) rfl ?_
    rw [zup_zup]
    refine zAloadN d_X12_fling_136 rfl rfl (q := 137) rfl ?_
    refine zGetR d_X12_fling_137 ff_X12_95 sh_64 (by decide) r_64_41 (q := 140) rfl ?_
    refine zIconst d_X12_fling_140 (v := 4) ic_4 (q := 141) rfl ?_
    refine zDup2 d_X12_fling_141 rfl rfl (q := 142) rfl ?_
    refine zIald d_X12_fling_142 sh_92 (by decide) (j := 4) rfl (by decide) (q := 143) rfl ?_
    rw [zup_eq]
    refine zAloadN d_X12_fling_143 rfl rfl (q := 144) rfl ?_
    refine zGetR d_X12_fling_144 ff_X12_33 sh_64 (by decide) r_64_10 (q := 147) rfl ?_
    refine zIloadN d_X12_fling_147 rfl rfl (q := 148) rfl ?_
    refine zIald d_X12_fling_148 sh_72 (by decide) rfl (by omega) (q := 149) rfl ?_
    rw [w72]
    refine zIadd d_X12_fling_149 (q := 150) rfl ?_
    refine zIast d_X12_fling_150 sh_92 (by decide) (j := 4) rfl (by decide) (q := 151) rfl ?_
    rw [zup_zup]
    refine zIload d_X12_fling_151 rfl (q := 153) rfl ?_
    refine zIret d_X12_fling_153 rfl rfl rfl ?_
    rw [zup_eq, w92]
    exact KK W w69 w74 w92 wo
  refine zSp_of (lv := [(0, .ref 64), (1, .int st)]) k_X12_fling rfl (Nat.le_of_ble_eq_true rfl) ?_
  refine zAloadN d_X12_fling_0 rfl rfl (q := 1) rfl ?_
  refine zIloadN d_X12_fling_1 rfl rfl (q := 2) rfl ?_
  refine zCallVP d_X12_fling_2 ml_X12_261 k_X12_areStarThrower ki_X12_areStarThrower ks_X12_areStarThrower (sp_X12_areStarThrower (d := d - 1) (by omega) hM hK) rfl rfl sh_64 (by decide) rfl (by decide) (Nat.le_of_ble_eq_true rfl) (by decide) (by omega) zns100 (q := 5) rfl ?_
  refine zIf_ne d_X12_fling_5 (tgt := 10) (q := 8) (by decide) rfl (fun h5 => ?_) (fun h => absurd h (fun z => bi_0.mp z hc))
  refine zIloadN d_X12_fling_10 rfl rfl (q := 11) rfl ?_
  refine zBipush d_X12_fling_11 (v := 10) bc_10 (q := 13) rfl ?_
  refine zIdiv d_X12_fling_13 (by decide) (q := 14) rfl ?_
  rw [e1]
  refine zIstoreN d_X12_fling_14 rfl (by decide) rfl (q := 15) rfl ?_
  refine zIloadN d_X12_fling_15 rfl rfl (q := 16) rfl ?_
  refine zBipush d_X12_fling_16 (v := 10) bc_10 (q := 18) rfl ?_
  refine zIrem d_X12_fling_18 (by decide) (q := 19) rfl ?_
  rw [e2]
  refine zIstoreN d_X12_fling_19 rfl (by decide) rfl (q := 20) rfl ?_
  refine zAloadN d_X12_fling_20 rfl rfl (q := 21) rfl ?_
  refine zGetR d_X12_fling_21 ff_X12_24 sh_64 (by decide) r_64_6 (q := 24) rfl ?_
  refine zIloadN d_X12_fling_24 rfl rfl (q := 25) rfl ?_
  refine zIald d_X12_fling_25 sh_69 (by decide) rfl (by omega) (q := 26) rfl ?_
  rw [mu]
  refine zIconst d_X12_fling_26 (v := 1) ic_1 (q := 27) rfl ?_
  refine zIcmp_eq d_X12_fling_27 (tgt := 40) (q := 30) (by decide) rfl (fun h27 => ?_) (fun h27 => ?_)
  · have c : ¬ (V 7 s = 0 ∧ V 8 s = 0) := fun z => by rw [z.1] at h27; exact absurd h27 (by decide)
    refine zBipush d_X12_fling_40 (v := -5) bc_m5 (q := 42) rfl ?_
    refine zIret d_X12_fling_42 rfl rfl rfl ?_
    exact ⟨_, rfl, Or.inl ⟨c, rfl, rfl⟩⟩
  · refine zAloadN d_X12_fling_30 rfl rfl (q := 31) rfl ?_
    refine zGetR d_X12_fling_31 ff_X12_27 sh_64 (by decide) r_64_7 (q := 34) rfl ?_
    refine zIloadN d_X12_fling_34 rfl rfl (q := 35) rfl ?_
    refine zIald d_X12_fling_35 sh_70 (by decide) rfl (by omega) (q := 36) rfl ?_
    rw [mg]
    refine zIconst d_X12_fling_36 (v := 1) ic_1 (q := 37) rfl ?_
    refine zIcmp_ne d_X12_fling_37 (tgt := 43) (q := 40) (by decide) rfl (fun h37 => ?_) (fun h37 => ?_)
    · have c : V 7 s = 0 ∧ V 8 s = 0 := ⟨(zb_up hB s).resolve_right h27, (zb_gone hB s).resolve_right h37⟩
      refine zAloadN d_X12_fling_43 rfl rfl (q := 44) rfl ?_
      refine zGetR d_X12_fling_44 ff_X12_39 sh_64 (by decide) r_64_13 (q := 47) rfl ?_
      refine zIconst d_X12_fling_47 (v := 2) ic_2 (q := 48) rfl ?_
      refine zAloadN d_X12_fling_48 rfl rfl (q := 49) rfl ?_
      refine zGetR d_X12_fling_49 ff_X12_39 sh_64 (by decide) r_64_13 (q := 52) rfl ?_
      refine zIconst d_X12_fling_52 (v := 2) ic_2 (q := 53) rfl ?_
      refine zIald d_X12_fling_53 sh_74 (by decide) (j := 2) rfl (by decide) (q := 54) rfl ?_
      rw [mz]
      refine zLdcw d_X12_fling_54 co_X12_354 (q := 57) rfl ?_
      refine zImul d_X12_fling_57 (q := 58) rfl ?_
      refine zSipush d_X12_fling_58 (v := 12345) sc_12345 (q := 61) rfl ?_
      refine zIadd d_X12_fling_61 (q := 62) rfl ?_
      rw [show V 14 0 * 1103515245 + 12345 = zNx (V 14 0) from rfl]
      refine zIast d_X12_fling_62 sh_74 (by decide) (j := 2) rfl (by decide) (q := 63) rfl ?_
      refine zAloadN d_X12_fling_63 rfl rfl (q := 64) rfl ?_
      refine zGetR d_X12_fling_64 ff_X12_39 sh_64 (by decide) r_64_13 (q := 67) rfl ?_
      refine zIconst d_X12_fling_67 (v := 2) ic_2 (q := 68) rfl ?_
      refine zIald d_X12_fling_68 sh_74 (by decide) (j := 2) rfl (by decide) (q := 69) rfl ?_
      refine zBipush d_X12_fling_69 (v := 8) bc_8 (q := 71) rfl ?_
      refine zIushr d_X12_fling_71 (q := 72) rfl ?_
      refine zBipush d_X12_fling_72 (v := 12) bc_12 (q := 74) rfl ?_
      refine zIrem d_X12_fling_74 (by decide) (q := 75) rfl ?_
      refine zAloadN d_X12_fling_75 rfl rfl (q := 76) rfl ?_
      refine zIloadN d_X12_fling_76 rfl rfl (q := 77) rfl ?_
      refine zIloadN d_X12_fling_77 rfl rfl (q := 78) rfl ?_
      refine zAloadN d_X12_fling_78 rfl rfl (q := 79) rfl ?_
      refine zGetR d_X12_fling_79 ff_X12_39 sh_64 (by decide) r_64_13 (q := 82) rfl ?_
      refine zIconst d_X12_fling_82 (v := 0) ic_0 (q := 83) rfl ?_
      refine zIald d_X12_fling_83 sh_74 (by decide) (j := 0) rfl (by decide) (q := 84) rfl ?_
      rw [show (zup I 74 (zup (I 74) 2 (zNx (V 14 0)))) 74 0 = V 12 0 from mm, show (zup I 74 (zup (I 74) 2 (zNx (V 14 0)))) 74 2 = zNx (V 14 0) from rfl]
      refine zCallVX d_X12_fling_84 ml_X12_264 k_X12_oddsBy ki_X12_oddsBy ks_X12_oddsBy (sp_X12_oddsBy (d := d - 1) (by omega) (I := zup I 74 (zup (I 74) 2 (zNx (V 14 0)))) (V := zup V 14 (zup (V 14) 0 (zNx (V 14 0)))) ⟨⟨m1, m2, m3⟩, ⟨mc, mb, ms, ma, mu, mg, mf, mp, mn⟩, ⟨mm, md, rfl⟩, ml⟩ (zMl_ex (I := I) rfl (fun a ha ↦ zup_ne (by omega)) hD.2.2.2.2.2.2) (by omega) (by omega)) rfl rfl sh_64 (by decide) rfl (by decide) (Nat.le_of_ble_eq_true rfl) (by decide) (by omega) zns100 (q := 87) rfl (fun x w' hw' => ?_)
      obtain ⟨rfl, J, rfl, hJ⟩ := hw'
      rw [show zEn (zup V 14 (zup (V 14) 0 (zNx (V 14 0)))) s t (V 12 0) = zEn V s t (V 12 0) from rfl]
      refine zIcmp_ge d_X12_fling_87 (tgt := 94) (q := 90) (by decide) rfl (fun h87 => ?_) (fun h87 => ?_)
      · have ex : (0 : Int32) = bi (zDraw (zNx (V 14 0)) < zOdds pg (zEn V s t (V 12 0))) := (bi_f (Int32.not_lt.mpr h87)).symm
        refine zIconst d_X12_fling_94 (v := 0) ic_0 (q := 95) rfl ?_
        refine zIstore d_X12_fling_95 (by decide) rfl (q := 97) rfl ?_
        refine zSub [0, 2, 1, 3] rfl ?_
        exact tail _ ex c J hJ
      · have ex : (1 : Int32) = bi (zDraw (zNx (V 14 0)) < zOdds pg (zEn V s t (V 12 0))) := (bi_t (Int32.not_le.mp h87)).symm
        refine zIconst d_X12_fling_90 (v := 1) ic_1 (q := 91) rfl ?_
        refine zGoto d_X12_fling_91 (q := 95) (by decide) ?_
        refine zIstore d_X12_fling_95 (by decide) rfl (q := 97) rfl ?_
        refine zSub [0, 2, 1, 3] rfl ?_
        exact tail _ ex c J hJ
    · have c : ¬ (V 7 s = 0 ∧ V 8 s = 0) := fun z => by rw [z.2] at h37; exact absurd h37 (by decide)
      refine zBipush d_X12_fling_40 (v := -5) bc_m5 (q := 42) rfl ?_
      refine zIret d_X12_fling_42 rfl rfl rfl ?_
      exact ⟨_, rfl, Or.inl ⟨c, rfl, rfl⟩⟩
end S64

