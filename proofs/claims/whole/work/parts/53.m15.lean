theorem d_X12_comesOn_0 : decode (zmc m_X12_comesOn) 0 = .ok (.iconst 0, 1) := by decide +kernel
theorem d_X12_comesOn_1 : decode (zmc m_X12_comesOn) 1 = .ok (.istore 5, 2) := by decide +kernel
theorem d_X12_comesOn_3 : decode (zmc m_X12_comesOn) 3 = .ok (.iload 5, 2) := by decide +kernel
theorem d_X12_comesOn_5 : decode (zmc m_X12_comesOn) 5 = .ok (.bipush 8, 2) := by decide +kernel
theorem d_X12_comesOn_7 : decode (zmc m_X12_comesOn) 7 = .ok (.if_icmp .ge 115, 3) := by decide +kernel
theorem d_X12_comesOn_10 : decode (zmc m_X12_comesOn) 10 = .ok (.iload 5, 2) := by decide +kernel
theorem d_X12_comesOn_12 : decode (zmc m_X12_comesOn) 12 = .ok (.aload_n 0, 1) := by decide +kernel
theorem d_X12_comesOn_13 : decode (zmc m_X12_comesOn) 13 = .ok (.getfield 110, 3) := by decide +kernel
theorem d_X12_comesOn_16 : decode (zmc m_X12_comesOn) 16 = .ok (.iload_n 1, 1) := by decide +kernel
theorem d_X12_comesOn_17 : decode (zmc m_X12_comesOn) 17 = .ok (.iaload, 1) := by decide +kernel
theorem d_X12_comesOn_18 : decode (zmc m_X12_comesOn) 18 = .ok (.if_icmp .ge 104, 3) := by decide +kernel
theorem d_X12_comesOn_21 : decode (zmc m_X12_comesOn) 21 = .ok (.aload_n 0, 1) := by decide +kernel
theorem d_X12_comesOn_22 : decode (zmc m_X12_comesOn) 22 = .ok (.iload_n 1, 1) := by decide +kernel
theorem d_X12_comesOn_23 : decode (zmc m_X12_comesOn) 23 = .ok (.iload 5, 2) := by decide +kernel
theorem d_X12_comesOn_25 : decode (zmc m_X12_comesOn) 25 = .ok (.invokevirtual 267, 3) := by decide +kernel
theorem d_X12_comesOn_28 : decode (zmc m_X12_comesOn) 28 = .ok (.invokestatic 145, 3) := by decide +kernel
theorem d_X12_comesOn_31 : decode (zmc m_X12_comesOn) 31 = .ok (.ifCond .eq 91, 3) := by decide +kernel
theorem d_X12_comesOn_34 : decode (zmc m_X12_comesOn) 34 = .ok (.aload_n 0, 1) := by decide +kernel
theorem d_X12_comesOn_35 : decode (zmc m_X12_comesOn) 35 = .ok (.iload_n 1, 1) := by decide +kernel
theorem d_X12_comesOn_36 : decode (zmc m_X12_comesOn) 36 = .ok (.iload 5, 2) := by decide +kernel
theorem d_X12_comesOn_38 : decode (zmc m_X12_comesOn) 38 = .ok (.invokevirtual 267, 3) := by decide +kernel
theorem d_X12_comesOn_41 : decode (zmc m_X12_comesOn) 41 = .ok (.bipush 8, 2) := by decide +kernel
theorem d_X12_comesOn_43 : decode (zmc m_X12_comesOn) 43 = .ok (.irem, 1) := by decide +kernel
theorem d_X12_comesOn_44 : decode (zmc m_X12_comesOn) 44 = .ok (.istore 6, 2) := by decide +kernel
theorem d_X12_comesOn_46 : decode (zmc m_X12_comesOn) 46 = .ok (.iload 4, 2) := by decide +kernel
theorem d_X12_comesOn_48 : decode (zmc m_X12_comesOn) 48 = .ok (.ifCond .eq 10, 3) := by decide +kernel
theorem d_X12_comesOn_51 : decode (zmc m_X12_comesOn) 51 = .ok (.bipush 7, 2) := by decide +kernel
theorem d_X12_comesOn_53 : decode (zmc m_X12_comesOn) 53 = .ok (.iload 6, 2) := by decide +kernel
theorem d_X12_comesOn_55 : decode (zmc m_X12_comesOn) 55 = .ok (.isub, 1) := by decide +kernel
theorem d_X12_comesOn_56 : decode (zmc m_X12_comesOn) 56 = .ok (.istore 6, 2) := by decide +kernel
theorem d_X12_comesOn_58 : decode (zmc m_X12_comesOn) 58 = .ok (.iload 6, 2) := by decide +kernel
theorem d_X12_comesOn_60 : decode (zmc m_X12_comesOn) 60 = .ok (.iload_n 2, 1) := by decide +kernel
theorem d_X12_comesOn_61 : decode (zmc m_X12_comesOn) 61 = .ok (.iadd, 1) := by decide +kernel
theorem d_X12_comesOn_62 : decode (zmc m_X12_comesOn) 62 = .ok (.istore 6, 2) := by decide +kernel
theorem d_X12_comesOn_64 : decode (zmc m_X12_comesOn) 64 = .ok (.aload_n 0, 1) := by decide +kernel
theorem d_X12_comesOn_65 : decode (zmc m_X12_comesOn) 65 = .ok (.iload_n 1, 1) := by decide +kernel
theorem d_X12_comesOn_66 : decode (zmc m_X12_comesOn) 66 = .ok (.iload 5, 2) := by decide +kernel
theorem d_X12_comesOn_68 : decode (zmc m_X12_comesOn) 68 = .ok (.invokevirtual 267, 3) := by decide +kernel
theorem d_X12_comesOn_71 : decode (zmc m_X12_comesOn) 71 = .ok (.bipush 8, 2) := by decide +kernel
theorem d_X12_comesOn_73 : decode (zmc m_X12_comesOn) 73 = .ok (.idiv, 1) := by decide +kernel
theorem d_X12_comesOn_74 : decode (zmc m_X12_comesOn) 74 = .ok (.iload_n 3, 1) := by decide +kernel
theorem d_X12_comesOn_75 : decode (zmc m_X12_comesOn) 75 = .ok (.iadd, 1) := by decide +kernel
theorem d_X12_comesOn_76 : decode (zmc m_X12_comesOn) 76 = .ok (.istore 7, 2) := by decide +kernel
theorem d_X12_comesOn_78 : decode (zmc m_X12_comesOn) 78 = .ok (.iload 6, 2) := by decide +kernel
theorem d_X12_comesOn_80 : decode (zmc m_X12_comesOn) 80 = .ok (.iconst 0, 1) := by decide +kernel
theorem d_X12_comesOn_81 : decode (zmc m_X12_comesOn) 81 = .ok (.bipush 7, 2) := by decide +kernel
theorem d_X12_comesOn_83 : decode (zmc m_X12_comesOn) 83 = .ok (.invokestatic 127, 3) := by decide +kernel
theorem d_X12_comesOn_86 : decode (zmc m_X12_comesOn) 86 = .ok (.ifCond .eq 28, 3) := by decide +kernel
theorem d_X12_comesOn_89 : decode (zmc m_X12_comesOn) 89 = .ok (.iload 7, 2) := by decide +kernel
theorem d_X12_comesOn_91 : decode (zmc m_X12_comesOn) 91 = .ok (.iconst 0, 1) := by decide +kernel
theorem d_X12_comesOn_92 : decode (zmc m_X12_comesOn) 92 = .ok (.iconst 5, 1) := by decide +kernel
theorem d_X12_comesOn_93 : decode (zmc m_X12_comesOn) 93 = .ok (.invokestatic 127, 3) := by decide +kernel
theorem d_X12_comesOn_96 : decode (zmc m_X12_comesOn) 96 = .ok (.ifCond .eq 18, 3) := by decide +kernel
theorem d_X12_comesOn_99 : decode (zmc m_X12_comesOn) 99 = .ok (.aload_n 0, 1) := by decide +kernel
theorem d_X12_comesOn_100 : decode (zmc m_X12_comesOn) 100 = .ok (.bipush 8, 2) := by decide +kernel
theorem d_X12_comesOn_102 : decode (zmc m_X12_comesOn) 102 = .ok (.iload 7, 2) := by decide +kernel
theorem d_X12_comesOn_104 : decode (zmc m_X12_comesOn) 104 = .ok (.imul, 1) := by decide +kernel
theorem d_X12_comesOn_105 : decode (zmc m_X12_comesOn) 105 = .ok (.iload 6, 2) := by decide +kernel
theorem d_X12_comesOn_107 : decode (zmc m_X12_comesOn) 107 = .ok (.iadd, 1) := by decide +kernel
theorem d_X12_comesOn_108 : decode (zmc m_X12_comesOn) 108 = .ok (.invokevirtual 141, 3) := by decide +kernel
theorem d_X12_comesOn_111 : decode (zmc m_X12_comesOn) 111 = .ok (.ifCond .ge 5, 3) := by decide +kernel
theorem d_X12_comesOn_114 : decode (zmc m_X12_comesOn) 114 = .ok (.iconst 0, 1) := by decide +kernel
theorem d_X12_comesOn_115 : decode (zmc m_X12_comesOn) 115 = .ok (.ireturn, 1) := by decide +kernel
theorem d_X12_comesOn_116 : decode (zmc m_X12_comesOn) 116 = .ok (.iinc 5 1, 3) := by decide +kernel
theorem d_X12_comesOn_119 : decode (zmc m_X12_comesOn) 119 = .ok (.goto (-116), 3) := by decide +kernel
theorem d_X12_comesOn_122 : decode (zmc m_X12_comesOn) 122 = .ok (.iconst 1, 1) := by decide +kernel
theorem d_X12_comesOn_123 : decode (zmc m_X12_comesOn) 123 = .ok (.ireturn, 1) := by decide +kernel
theorem d_X12_pattern_0 : decode (zmc m_X12_pattern) 0 = .ok (.iload_n 1, 1) := by decide +kernel
theorem d_X12_pattern_1 : decode (zmc m_X12_pattern) 1 = .ok (.invokestatic 152, 3) := by decide +kernel
theorem d_X12_pattern_4 : decode (zmc m_X12_pattern) 4 = .ok (.ifCond .eq 12, 3) := by decide +kernel
theorem d_X12_pattern_7 : decode (zmc m_X12_pattern) 7 = .ok (.iload_n 2, 1) := by decide +kernel
theorem d_X12_pattern_8 : decode (zmc m_X12_pattern) 8 = .ok (.iconst 0, 1) := by decide +kernel
theorem d_X12_pattern_9 : decode (zmc m_X12_pattern) 9 = .ok (.iconst 3, 1) := by decide +kernel
theorem d_X12_pattern_10 : decode (zmc m_X12_pattern) 10 = .ok (.invokestatic 127, 3) := by decide +kernel
theorem d_X12_pattern_13 : decode (zmc m_X12_pattern) 13 = .ok (.ifCond .ne 5, 3) := by decide +kernel
theorem d_X12_pattern_16 : decode (zmc m_X12_pattern) 16 = .ok (.iconst (-1), 1) := by decide +kernel
theorem d_X12_pattern_17 : decode (zmc m_X12_pattern) 17 = .ok (.ireturn, 1) := by decide +kernel
theorem d_X12_pattern_18 : decode (zmc m_X12_pattern) 18 = .ok (.aload_n 0, 1) := by decide +kernel
theorem d_X12_pattern_19 : decode (zmc m_X12_pattern) 19 = .ok (.iload_n 1, 1) := by decide +kernel
theorem d_X12_pattern_20 : decode (zmc m_X12_pattern) 20 = .ok (.invokevirtual 279, 3) := by decide +kernel
theorem d_X12_pattern_23 : decode (zmc m_X12_pattern) 23 = .ok (.ifCond .ge 9, 3) := by decide +kernel
theorem d_X12_pattern_26 : decode (zmc m_X12_pattern) 26 = .ok (.aload_n 0, 1) := by decide +kernel
theorem d_X12_pattern_27 : decode (zmc m_X12_pattern) 27 = .ok (.iload_n 1, 1) := by decide +kernel
theorem d_X12_pattern_28 : decode (zmc m_X12_pattern) 28 = .ok (.invokevirtual 279, 3) := by decide +kernel
theorem d_X12_pattern_31 : decode (zmc m_X12_pattern) 31 = .ok (.ireturn, 1) := by decide +kernel
theorem d_X12_pattern_32 : decode (zmc m_X12_pattern) 32 = .ok (.iconst 0, 1) := by decide +kernel
theorem d_X12_pattern_33 : decode (zmc m_X12_pattern) 33 = .ok (.istore_n 3, 1) := by decide +kernel
theorem d_X12_pattern_34 : decode (zmc m_X12_pattern) 34 = .ok (.bipush (-2), 2) := by decide +kernel
theorem d_X12_pattern_36 : decode (zmc m_X12_pattern) 36 = .ok (.istore 4, 2) := by decide +kernel
theorem d_X12_pattern_38 : decode (zmc m_X12_pattern) 38 = .ok (.bipush (-5), 2) := by decide +kernel
theorem d_X12_pattern_40 : decode (zmc m_X12_pattern) 40 = .ok (.istore 5, 2) := by decide +kernel
theorem d_X12_pattern_42 : decode (zmc m_X12_pattern) 42 = .ok (.iload 5, 2) := by decide +kernel
theorem d_X12_pattern_44 : decode (zmc m_X12_pattern) 44 = .ok (.iconst 5, 1) := by decide +kernel
theorem d_X12_pattern_45 : decode (zmc m_X12_pattern) 45 = .ok (.if_icmp .gt 73, 3) := by decide +kernel
theorem d_X12_pattern_48 : decode (zmc m_X12_pattern) 48 = .ok (.bipush (-7), 2) := by decide +kernel
theorem d_X12_pattern_50 : decode (zmc m_X12_pattern) 50 = .ok (.istore 6, 2) := by decide +kernel
theorem d_X12_pattern_52 : decode (zmc m_X12_pattern) 52 = .ok (.iload 6, 2) := by decide +kernel
theorem d_X12_pattern_54 : decode (zmc m_X12_pattern) 54 = .ok (.bipush 7, 2) := by decide +kernel
theorem d_X12_pattern_56 : decode (zmc m_X12_pattern) 56 = .ok (.if_icmp .gt 56, 3) := by decide +kernel
theorem d_X12_pattern_59 : decode (zmc m_X12_pattern) 59 = .ok (.aload_n 0, 1) := by decide +kernel
theorem d_X12_pattern_60 : decode (zmc m_X12_pattern) 60 = .ok (.iload_n 1, 1) := by decide +kernel
theorem d_X12_pattern_61 : decode (zmc m_X12_pattern) 61 = .ok (.iload 6, 2) := by decide +kernel
theorem d_X12_pattern_63 : decode (zmc m_X12_pattern) 63 = .ok (.iload 5, 2) := by decide +kernel
theorem d_X12_pattern_65 : decode (zmc m_X12_pattern) 65 = .ok (.iload_n 2, 1) := by decide +kernel
theorem d_X12_pattern_66 : decode (zmc m_X12_pattern) 66 = .ok (.iconst 1, 1) := by decide +kernel
theorem d_X12_pattern_67 : decode (zmc m_X12_pattern) 67 = .ok (.if_icmp .le 7, 3) := by decide +kernel
theorem d_X12_pattern_70 : decode (zmc m_X12_pattern) 70 = .ok (.iconst 1, 1) := by decide +kernel
theorem d_X12_pattern_71 : decode (zmc m_X12_pattern) 71 = .ok (.goto 4, 3) := by decide +kernel
theorem d_X12_pattern_74 : decode (zmc m_X12_pattern) 74 = .ok (.iconst 0, 1) := by decide +kernel
theorem d_X12_pattern_75 : decode (zmc m_X12_pattern) 75 = .ok (.invokevirtual 342, 3) := by decide +kernel
theorem d_X12_pattern_78 : decode (zmc m_X12_pattern) 78 = .ok (.ifCond .ne 6, 3) := by decide +kernel
theorem d_X12_pattern_81 : decode (zmc m_X12_pattern) 81 = .ok (.goto 25, 3) := by decide +kernel
theorem d_X12_pattern_84 : decode (zmc m_X12_pattern) 84 = .ok (.iload_n 3, 1) := by decide +kernel
theorem d_X12_pattern_85 : decode (zmc m_X12_pattern) 85 = .ok (.ifCond .ne 18, 3) := by decide +kernel
theorem d_X12_pattern_88 : decode (zmc m_X12_pattern) 88 = .ok (.bipush 15, 2) := by decide +kernel
theorem d_X12_pattern_90 : decode (zmc m_X12_pattern) 90 = .ok (.iload 5, 2) := by decide +kernel
theorem d_X12_pattern_92 : decode (zmc m_X12_pattern) 92 = .ok (.iconst 5, 1) := by decide +kernel
theorem d_X12_pattern_93 : decode (zmc m_X12_pattern) 93 = .ok (.iadd, 1) := by decide +kernel
theorem d_X12_pattern_94 : decode (zmc m_X12_pattern) 94 = .ok (.imul, 1) := by decide +kernel
theorem d_X12_pattern_95 : decode (zmc m_X12_pattern) 95 = .ok (.iload 6, 2) := by decide +kernel
theorem d_X12_pattern_97 : decode (zmc m_X12_pattern) 97 = .ok (.iadd, 1) := by decide +kernel
theorem d_X12_pattern_98 : decode (zmc m_X12_pattern) 98 = .ok (.bipush 7, 2) := by decide +kernel
theorem d_X12_pattern_100 : decode (zmc m_X12_pattern) 100 = .ok (.iadd, 1) := by decide +kernel
theorem d_X12_pattern_101 : decode (zmc m_X12_pattern) 101 = .ok (.istore 4, 2) := by decide +kernel
theorem d_X12_pattern_103 : decode (zmc m_X12_pattern) 103 = .ok (.iinc 3 1, 3) := by decide +kernel
theorem d_X12_pattern_106 : decode (zmc m_X12_pattern) 106 = .ok (.iinc 6 1, 3) := by decide +kernel
theorem d_X12_pattern_109 : decode (zmc m_X12_pattern) 109 = .ok (.goto (-57), 3) := by decide +kernel
theorem d_X12_pattern_112 : decode (zmc m_X12_pattern) 112 = .ok (.iinc 5 1, 3) := by decide +kernel
theorem d_X12_pattern_115 : decode (zmc m_X12_pattern) 115 = .ok (.goto (-73), 3) := by decide +kernel
theorem d_X12_pattern_118 : decode (zmc m_X12_pattern) 118 = .ok (.iload_n 2, 1) := by decide +kernel
theorem d_X12_pattern_119 : decode (zmc m_X12_pattern) 119 = .ok (.iconst 2, 1) := by decide +kernel
theorem d_X12_pattern_120 : decode (zmc m_X12_pattern) 120 = .ok (.irem, 1) := by decide +kernel
theorem d_X12_pattern_121 : decode (zmc m_X12_pattern) 121 = .ok (.ifCond .ne 7, 3) := by decide +kernel
theorem d_X12_pattern_124 : decode (zmc m_X12_pattern) 124 = .ok (.iload_n 3, 1) := by decide +kernel
theorem d_X12_pattern_125 : decode (zmc m_X12_pattern) 125 = .ok (.goto 5, 3) := by decide +kernel
theorem d_X12_pattern_128 : decode (zmc m_X12_pattern) 128 = .ok (.iload 4, 2) := by decide +kernel
theorem d_X12_pattern_130 : decode (zmc m_X12_pattern) 130 = .ok (.ireturn, 1) := by decide +kernel
/-! THE REFERENCE: pattern, by turns -/
theorem zsub5 {a b c : Nat} (ha : a < 1000) (hb : b < 1000) (hc : c < 1000) : nI a - nI b ≤ nI c ↔ a ≤ b + c := by
  rw [Int32.le_iff_toInt_le, zsubT (by omega) (by omega), nI_toInt (by omega)]
  omega
theorem zsub6 (a : Nat) (x : Int32) : nI a - x + Int32.ofInt 1 = nI (a + 1) - x := by
  rw [← nI_1, show Int32.ofInt 1 = 1 from rfl, Int32.sub_eq_add_neg, Int32.sub_eq_add_neg, Int32.add_assoc, Int32.add_assoc, Int32.add_comm (-x)]
section S53
variable {g : zG} {l : Launch} {d : Nat} {I V : Nat → Nat → Int32} {L K : Nat → Nat → Int64} {fs : Nat × Nat × Option Nat} {ns nt nh nb : Nat} {pg : Option (List zLine)}
theorem sp_X12_comesOn (hd : 3 ≤ d) (hM : zMs I V) (hK : zSky V ns nt nh) (hH : zMh I V L K) {q m : Nat} (hq : q < 6) (hm : V (42 + 2 * q) 2 = nI m) (hm2 : m ≤ 60) {x y mir : Int32} : zPure g l d m_X12_comesOn [.ref 64, .int (nI q), .int x, .int y, .int mir] I L fs (.int (bi (zFit V ns (zPatX V K (42 + 2 * q) mir) (zPatY V K (42 + 2 * q)) (zPatN V K (42 + 2 * q)) x y))) := by
  have hns := hK.2.1
  have e97 : I 97 q = nI m := (hH q hq).1.trans hm
  obtain ⟨N, eN⟩ : ∃ N, N = zPatN V K (42 + 2 * q) := ⟨_, rfl⟩
  obtain ⟨so, eso⟩ : ∃ so : Nat → Bool, so = (fun i => decide (zOnB V ns (zPatX V K (42 + 2 * q) mir i + x) (zPatY V K (42 + 2 * q) i + y))) := ⟨_, rfl⟩
  have ebi : bi (zFit V ns (zPatX V K (42 + 2 * q) mir) (zPatY V K (42 + 2 * q)) (zPatN V K (42 + 2 * q)) x y) = bi (zrun so N 0 = N) := by rw [eso, eN]
  rw [ebi]
  have loop : ∀ i, i ≤ 8 → zrun (zCell V K (42 + 2 * q)) 8 i = N → zrun so N i = zrun so N 0 → zA g l d m_X12_comesOn I L fs 3 [(5, .int (nI i)), (0, .ref 64), (1, .int (nI q)), (2, .int x), (3, .int y), (4, .int mir)] (zP (.int (bi (zrun so N 0 = N))) (zU I L fs)) := by
    refine zloop 8 (fun i hi ih hx hy => ?_)
    have stop : ∀ c : ¬ zCell V K (42 + 2 * q) i = true, bi (zrun so N 0 = N) = 1 := fun c => by
      rw [zrun_f c] at hx
      exact bi_t (by rw [← hy, ← hx, zrun_end (Nat.le_refl _)])
    have tail : ∀ x6, x6 = zPatX V K (42 + 2 * q) mir i → i < m → i < 8 → zCell V K (42 + 2 * q) i = true → zrun (zCell V K (42 + 2 * q)) 8 (i + 1) = N → zA g l d m_X12_comesOn I L fs 58 [(6, .int x6), (5, .int (nI i)), (0, .ref 64), (1, .int (nI q)), (2, .int x), (3, .int y), (4, .int mir)] (zP (.int (bi (zrun so N 0 = N))) (zU I L fs)) := by
      rintro x6 rfl him hi8 hcell hx2
      have t1 : zTold V K (42 + 2 * q) (nI i) = (K (43 + 2 * q) i).toInt32 := zTold_at hm hm2 him
      have hiN : i < N := by have := (zrun_spec (zCell V K (42 + 2 * q)) 8 (i + 1) hi8).1; omega
      have hz := zfind_neg (f := V 3) (c := 8 * (zPatY V K (42 + 2 * q) i + y) + (zPatX V K (42 + 2 * q) mir i + x)) (n := ns) (by omega)
      have no : ¬ so i = true → bi (zrun so N 0 = N) = 0 := fun c => by rw [zrun_f c] at hy; exact bi_f (by rw [← hy]; omega)
      refine zIload d_X12_comesOn_58 rfl (q := 60) rfl ?_
      refine zIloadN d_X12_comesOn_60 rfl rfl (q := 61) rfl ?_
      refine zIadd d_X12_comesOn_61 (q := 62) rfl ?_
      refine zIstore d_X12_comesOn_62 (by decide) rfl (q := 64) rfl ?_
      refine zAloadN d_X12_comesOn_64 rfl rfl (q := 65) rfl ?_
      refine zIloadN d_X12_comesOn_65 rfl rfl (q := 66) rfl ?_
      refine zIload d_X12_comesOn_66 rfl (q := 68) rfl ?_
      refine zCallVP d_X12_comesOn_68 ml_X12_267 k_X12_at ki_X12_at ks_X12_at (sp_X12_at (d := d - 1) (by omega) hH hq (i := i) (by omega)) rfl rfl sh_64 (by decide) rfl (by decide) (Nat.le_of_ble_eq_true rfl) (by decide) (by omega) zns100 (q := 71) rfl ?_
      rw [← t1]
      refine zBipush d_X12_comesOn_71 (v := 8) bc_8 (q := 73) rfl ?_
      refine zIdiv d_X12_comesOn_73 (by decide) (q := 74) rfl ?_
      rw [show zTold V K (42 + 2 * q) (nI i) / 8 = zPatY V K (42 + 2 * q) i from rfl]
      refine zIloadN d_X12_comesOn_74 rfl rfl (q := 75) rfl ?_
      refine zIadd d_X12_comesOn_75 (q := 76) rfl ?_
      refine zIstore d_X12_comesOn_76 (by decide) rfl (q := 78) rfl ?_
      refine zIload d_X12_comesOn_78 rfl (q := 80) rfl ?_
      refine zIconst d_X12_comesOn_80 (v := 0) ic_0 (q := 81) rfl ?_
      refine zBipush d_X12_comesOn_81 (v := 7) bc_7 (q := 83) rfl ?_
      refine zCallSP d_X12_comesOn_83 ml_X12_127 k_X12_in kt_X12_in (sp_X12_in (d := d - 1) (by omega) ) rfl rfl (Nat.le_of_ble_eq_true rfl) (by decide) (by omega) zns100 (q := 86) rfl ?_
      refine zIf_eq d_X12_comesOn_86 (tgt := 114) (q := 89) (by decide) rfl (fun h86 => ?_) (fun h86 => ?_)
      · have c := no (by rw [eso, decide_eq_true_eq]; exact fun z => bi_0.mp h86 ⟨z.1.1.1, by have := z.1.1.2; grind⟩)
        refine zIconst d_X12_comesOn_114 (v := 0) ic_0 (q := 115) rfl ?_
        refine zIret d_X12_comesOn_115 rfl (by first | exact zn_bi | rfl) rfl ?_
        exact zPi c.symm
      · refine zIload d_X12_comesOn_89 rfl (q := 91) rfl ?_
        refine zIconst d_X12_comesOn_91 (v := 0) ic_0 (q := 92) rfl ?_
        refine zIconst d_X12_comesOn_92 (v := 5) ic_5 (q := 93) rfl ?_
        refine zCallSP d_X12_comesOn_93 ml_X12_127 k_X12_in kt_X12_in (sp_X12_in (d := d - 1) (by omega) ) rfl rfl (Nat.le_of_ble_eq_true rfl) (by decide) (by omega) zns100 (q := 96) rfl ?_
        refine zIf_eq d_X12_comesOn_96 (tgt := 114) (q := 99) (by decide) rfl (fun h96 => ?_) (fun h96 => ?_)
        · have c := no (by rw [eso, decide_eq_true_eq]; exact fun z => bi_0.mp h96 ⟨z.1.2.1, by have := z.1.2.2; grind⟩)
          refine zIconst d_X12_comesOn_114 (v := 0) ic_0 (q := 115) rfl ?_
          refine zIret d_X12_comesOn_115 rfl (by first | exact zn_bi | rfl) rfl ?_
          exact zPi c.symm
        · refine zAloadN d_X12_comesOn_99 rfl rfl (q := 100) rfl ?_
          refine zBipush d_X12_comesOn_100 (v := 8) bc_8 (q := 102) rfl ?_
          refine zIload d_X12_comesOn_102 rfl (q := 104) rfl ?_
          refine zImul d_X12_comesOn_104 (q := 105) rfl ?_
          refine zIload d_X12_comesOn_105 rfl (q := 107) rfl ?_
          refine zIadd d_X12_comesOn_107 (q := 108) rfl ?_
          refine zCallVP d_X12_comesOn_108 ml_X12_141 k_X12_starIn ki_X12_starIn ks_X12_starIn (sp_X12_starIn (d := d - 1) (by omega) hM hK) rfl rfl sh_64 (by decide) rfl (by decide) (Nat.le_of_ble_eq_true rfl) (by decide) (by omega) zns100 (q := 111) rfl ?_
          refine zIf_ge d_X12_comesOn_111 (tgt := 116) (q := 114) (by decide) rfl (fun h111 => ?_) (fun h111 => ?_)
          · have c : so i = true := by rw [eso, decide_eq_true_eq]; exact ⟨⟨⟨(bi_n0.mp h86).1, by have := (bi_n0.mp h86).2; grind⟩, ⟨(bi_n0.mp h96).1, by have := (bi_n0.mp h96).2; grind⟩⟩, fun z => by rw [z] at h111; exact absurd h111 (by decide)⟩
            refine zIinc d_X12_comesOn_116 rfl (zinc _) (by decide) rfl (q := 119) rfl ?_
            refine zGoto d_X12_comesOn_119 (q := 3) (by decide) ?_
            refine zSub [0, 3, 4, 5, 6, 7] rfl ?_
            exact ih hi8 hx2 (by rw [← hy, zrun_t hiN c])
          · have c := no (by rw [eso, decide_eq_true_eq]; exact fun z => z.2 (hz.mp (Int32.not_le.mp h111)))
            refine zIconst d_X12_comesOn_114 (v := 0) ic_0 (q := 115) rfl ?_
            refine zIret d_X12_comesOn_115 rfl (by first | exact zn_bi | rfl) rfl ?_
            exact zPi c.symm
    refine zIload d_X12_comesOn_3 rfl (q := 5) rfl ?_
    refine zBipush d_X12_comesOn_5 (v := 8) bc_8 (q := 7) rfl ?_
    refine zIcmp_ge d_X12_comesOn_7 (tgt := 122) (q := 10) (by decide) rfl (fun h7 => ?_) (fun h7 => ?_)
    · have e : i = 8 := by have := nle (b := 8) h7; omega
      have hfin : bi (zrun so N 0 = N) = 1 := by subst e; rw [zrun_end (Nat.le_refl _)] at hx; exact bi_t (by rw [← hy, ← hx, zrun_end (Nat.le_refl _)])
      refine zIconst d_X12_comesOn_122 (v := 1) ic_1 (q := 123) rfl ?_
      refine zIret d_X12_comesOn_123 rfl (by first | exact zn_bi | rfl) rfl ?_
      exact zPi hfin.symm
    · have hlt : i < 8 := nnle (b := 8) h7
      refine zIload d_X12_comesOn_10 rfl (q := 12) rfl ?_
      refine zAloadN d_X12_comesOn_12 rfl rfl (q := 13) rfl ?_
      refine zGetR d_X12_comesOn_13 ff_X12_110 sh_64 (by decide) r_64_54 (q := 16) rfl ?_
      refine zIloadN d_X12_comesOn_16 rfl rfl (q := 17) rfl ?_
      refine zIald d_X12_comesOn_17 sh_97 (by decide) rfl hq (q := 18) rfl ?_
      rw [e97]
      refine zIcmp_ge d_X12_comesOn_18 (tgt := 122) (q := 21) (by decide) rfl (fun h18 => ?_) (fun h18 => ?_)
      · have hge : m ≤ i := nle h18
        have hfin := stop (by unfold zCell; rw [decide_eq_true_eq, zTold_out hm hm2 hge (by omega)]; decide)
        refine zIconst d_X12_comesOn_122 (v := 1) ic_1 (q := 123) rfl ?_
        refine zIret d_X12_comesOn_123 rfl (by first | exact zn_bi | rfl) rfl ?_
        exact zPi hfin.symm
      · have hlt2 : i < m := nnle h18
        have t1 : zTold V K (42 + 2 * q) (nI i) = (K (43 + 2 * q) i).toInt32 := zTold_at hm hm2 hlt2
        refine zAloadN d_X12_comesOn_21 rfl rfl (q := 22) rfl ?_
        refine zIloadN d_X12_comesOn_22 rfl rfl (q := 23) rfl ?_
        refine zIload d_X12_comesOn_23 rfl (q := 25) rfl ?_
        refine zCallVP d_X12_comesOn_25 ml_X12_267 k_X12_at ki_X12_at ks_X12_at (sp_X12_at (d := d - 1) (by omega) hH hq (i := i) (by omega)) rfl rfl sh_64 (by decide) rfl (by decide) (Nat.le_of_ble_eq_true rfl) (by decide) (by omega) zns100 (q := 28) rfl ?_
        rw [← t1]
        refine zCallSP d_X12_comesOn_28 ml_X12_145 k_X12_isCell kt_X12_isCell (sp_X12_isCell (d := d - 1) (by omega) ) rfl rfl (Nat.le_of_ble_eq_true rfl) (by decide) (by omega) zns100 (q := 31) rfl ?_
        refine zIf_eq d_X12_comesOn_31 (tgt := 122) (q := 34) (by decide) rfl (fun h31 => ?_) (fun h31 => ?_)
        · have hfin := stop (by unfold zCell; rw [decide_eq_true_eq]; exact bi_0.mp h31)
          refine zIconst d_X12_comesOn_122 (v := 1) ic_1 (q := 123) rfl ?_
          refine zIret d_X12_comesOn_123 rfl (by first | exact zn_bi | rfl) rfl ?_
          exact zPi hfin.symm
        · have hcell : zCell V K (42 + 2 * q) i = true := by unfold zCell; rw [decide_eq_true_eq]; exact bi_n0.mp h31
          rw [zrun_t hlt hcell] at hx
          refine zAloadN d_X12_comesOn_34 rfl rfl (q := 35) rfl ?_
          refine zIloadN d_X12_comesOn_35 rfl rfl (q := 36) rfl ?_
          refine zIload d_X12_comesOn_36 rfl (q := 38) rfl ?_
          refine zCallVP d_X12_comesOn_38 ml_X12_267 k_X12_at ki_X12_at ks_X12_at (sp_X12_at (d := d - 1) (by omega) hH hq (i := i) (by omega)) rfl rfl sh_64 (by decide) rfl (by decide) (Nat.le_of_ble_eq_true rfl) (by decide) (by omega) zns100 (q := 41) rfl ?_
          rw [← t1]
          refine zBipush d_X12_comesOn_41 (v := 8) bc_8 (q := 43) rfl ?_
          refine zIrem d_X12_comesOn_43 (by decide) (q := 44) rfl ?_
          refine zIstore d_X12_comesOn_44 (by decide) rfl (q := 46) rfl ?_
          refine zIload d_X12_comesOn_46 rfl (q := 48) rfl ?_
          refine zIf_eq d_X12_comesOn_48 (tgt := 58) (q := 51) (by decide) rfl (fun h48 => ?_) (fun h48 => ?_)
          · refine zSub [0, 1, 2, 3, 4, 5, 6] rfl ?_
            first
            | exact tail _ (by unfold zPatX; dsimp only; rw [if_pos h48]) hlt2 hlt hcell hx
            | exact tail _ (by unfold zPatX; dsimp only; rw [if_neg h48]) hlt2 hlt hcell hx
          · refine zBipush d_X12_comesOn_51 (v := 7) bc_7 (q := 53) rfl ?_
            refine zIload d_X12_comesOn_53 rfl (q := 55) rfl ?_
            refine zIsub d_X12_comesOn_55 (q := 56) rfl ?_
            refine zIstore d_X12_comesOn_56 (by decide) rfl (q := 58) rfl ?_
            refine zSub [0, 1, 2, 3, 4, 5, 6] rfl ?_
            first
            | exact tail _ (by unfold zPatX; dsimp only; rw [if_pos h48]) hlt2 hlt hcell hx
            | exact tail _ (by unfold zPatX; dsimp only; rw [if_neg h48]) hlt2 hlt hcell hx
  refine zSp_of (lv := [(0, .ref 64), (1, .int (nI q)), (2, .int x), (3, .int y), (4, .int mir)]) k_X12_comesOn rfl (Nat.le_of_ble_eq_true rfl) ?_
  refine zIconst d_X12_comesOn_0 (v := 0) ic_0 (q := 1) rfl ?_
  refine zIstore d_X12_comesOn_1 (by decide) rfl (q := 3) rfl ?_
  refine zSub [0, 1, 2, 3, 4, 5] rfl ?_
  exact loop 0 (Nat.zero_le _) eN.symm rfl
theorem sp_X12_pattern0 {i w0 : Int32} (hd : 3 ≤ d) (hi : ¬ (0 ≤ i ∧ i < 6)) : zPure g l d m_X12_pattern [.ref 64, .int i, .int w0] I L fs (.int (-1)) := by
  refine zSp_of (lv := [(0, .ref 64), (1, .int i), (2, .int w0)]) k_X12_pattern rfl (Nat.le_of_ble_eq_true rfl) ?_
  refine zIloadN d_X12_pattern_0 rfl rfl (q := 1) rfl ?_
  refine zCallSP d_X12_pattern_1 ml_X12_152 k_X12_isShelf kt_X12_isShelf (sp_X12_isShelf (d := d - 1) (by omega) ) rfl rfl (Nat.le_of_ble_eq_true rfl) (by decide) (by omega) zns100 (q := 4) rfl ?_
  refine zIf_eq d_X12_pattern_4 (tgt := 16) (q := 7) (by decide) rfl (fun h4 => ?_) (fun h => absurd (zshelf_out hi) h)
  refine zIconst d_X12_pattern_16 (v := -1) ic_m1 (q := 17) rfl ?_
  refine zIret d_X12_pattern_17 rfl rfl rfl ?_
  exact zPi rfl
def zPatA (V : Nat → Nat → Int32) (K : Nat → Nat → Int64) (ns r : Nat) (w0 : Int32) : Int32 × Int32 := zMv (fun x y => decide (zFit V ns (zPatX V K r (if w0 < 2 then 0 else 1)) (zPatY V K r) (zPatN V K r) x y)) 0
theorem sp_X12_pattern (hd : 4 ≤ d) (hM : zMs I V) (hK : zSky V ns nt nh) (hH : zMh I V L K) (hBh : zBh V nb) (hn50 : nb ≤ 50) {q m : Nat} (hq : q < 6) (hm : V (42 + 2 * q) 2 = nI m) (hm2 : m ≤ 60) {w0 : Int32} : zPure g l d m_X12_pattern [.ref 64, .int (nI q), .int w0] I L fs (.int (if ¬ (0 ≤ w0 ∧ w0 ≤ 3) then -1 else if ¬ V (42 + 2 * q) 1 = 0 then (if V (42 + 2 * q) 1 = -1 then -11 else -12) else if w0 - w0 / 2 * 2 = 0 then (zPatA V K ns (42 + 2 * q) w0).1 else if (zPatA V K ns (42 + 2 * q) w0).1 = 0 then -2 else (zPatA V K ns (42 + 2 * q) w0).2)) := by
  obtain ⟨fit, efit⟩ : ∃ fit : Int32 → Int32 → Bool, fit = (fun x y => decide (zFit V ns (zPatX V K (42 + 2 * q) (if w0 < 2 then 0 else 1)) (zPatY V K (42 + 2 * q)) (zPatN V K (42 + 2 * q)) x y)) := ⟨_, rfl⟩
  obtain ⟨A, eA⟩ : ∃ A, A = zPatA V K ns (42 + 2 * q) w0 := ⟨_, rfl⟩
  have eA2 : A = zfor (fun j s => zfor (zMvI fit (nI j - 5)) 15 0 s) 11 0 (0, 0) := by rw [eA, efit]; rfl
  rw [← eA]
  have outer : (0 ≤ w0 ∧ w0 ≤ 3) → V (42 + 2 * q) 1 = 0 → ∀ j, j ≤ 11 → ∀ (c : Nat) (b : Int32) (t : Int32 × Int32), c ≤ 15 * j → t.1 = nI c → ((c = 0 ∧ b = -2) ∨ (0 < c ∧ b = t.2)) → zfor (fun j s => zfor (zMvI fit (nI j - 5)) 15 0 s) 11 j t = A → zA g l d m_X12_pattern I L fs 42 [(5, .int (nI j - 5)), (4, .int b), (3, .int (nI c)), (0, .ref 64), (1, .int (nI q)), (2, .int w0)] (zP (.int (if ¬ (0 ≤ w0 ∧ w0 ≤ 3) then -1 else if ¬ V (42 + 2 * q) 1 = 0 then (if V (42 + 2 * q) 1 = -1 then -11 else -12) else if w0 - w0 / 2 * 2 = 0 then A.1 else if A.1 = 0 then -2 else A.2)) (zU I L fs)) := by
    intro hc hv
    refine zloop 11 (fun j hj ih c b t hcj ht hb hx => ?_)
    have inner : j < 11 → ∀ i, i ≤ 15 → ∀ (c : Nat) (b : Int32) (t : Int32 × Int32), c ≤ 15 * j + i → t.1 = nI c → ((c = 0 ∧ b = -2) ∨ (0 < c ∧ b = t.2)) → zfor (fun j s => zfor (zMvI fit (nI j - 5)) 15 0 s) 11 (j + 1) (zfor (zMvI fit (nI j - 5)) 15 i t) = A → zA g l d m_X12_pattern I L fs 52 [(6, .int (nI i - 7)), (5, .int (nI j - 5)), (4, .int b), (3, .int (nI c)), (0, .ref 64), (1, .int (nI q)), (2, .int w0)] (zP (.int (if ¬ (0 ≤ w0 ∧ w0 ≤ 3) then -1 else if ¬ V (42 + 2 * q) 1 = 0 then (if V (42 + 2 * q) 1 = -1 then -11 else -12) else if w0 - w0 / 2 * 2 = 0 then A.1 else if A.1 = 0 then -2 else A.2)) (zU I L fs)) := by
      intro hj11
      refine zloop 15 (fun i hi ih2 c b t hcj ht hb hx => ?_)
      have i7 : nI i - 7 ≤ 7 ↔ i ≤ 14 := zsub5 (a := i) (b := 7) (c := 7) (by omega) (by decide) (by decide)
      have hstep : ∀ c2 : Bool, fit (nI i - 7) (nI j - 5) = c2 → zMvI fit (nI j - 5) i t = if c2 = true then (t.1 + 1, if t.1 = 0 then 15 * (nI j - 5 + 5) + (nI i - 7) + 7 else t.2) else t := fun c2 e => by unfold zMvI; rw [e]
      have hbn : ∀ v, v = 15 * (nI j - 5 + 5) + (nI i - 7) + 7 → c = 0 → ((c + 1 = 0 ∧ v = -2) ∨ (0 < c + 1 ∧ v = (if t.1 = 0 then 15 * (nI j - 5 + 5) + (nI i - 7) + 7 else t.2))) := fun v ev e0 => Or.inr ⟨Nat.succ_pos c, by rw [if_pos (by rw [ht, e0]; rfl)]; exact ev⟩
      have hbo : ¬ c = 0 → ((c + 1 = 0 ∧ b = -2) ∨ (0 < c + 1 ∧ b = (if t.1 = 0 then 15 * (nI j - 5 + 5) + (nI i - 7) + 7 else t.2))) := fun e0 => Or.inr ⟨Nat.succ_pos c, by rw [if_neg (by rw [ht]; exact nI_ne0 (by omega) (by omega))]; rcases hb with z | z; exact absurd z.1 e0; exact z.2⟩
      refine zIload d_X12_pattern_52 rfl (q := 54) rfl ?_
      refine zBipush d_X12_pattern_54 (v := 7) bc_7 (q := 56) rfl ?_
      refine zIcmp_gt d_X12_pattern_56 (tgt := 112) (q := 59) (by decide) rfl (fun h56 => ?_) (fun h56 => ?_)
      · have e : i = 15 := by rcases Nat.lt_or_ge i 15 with z | z; exact absurd (i7.mpr (by omega)) (Int32.not_le.mpr h56); omega
        subst e
        rw [zfor_end (n := 15) (Nat.le_refl _)] at hx
        refine zIinc d_X12_pattern_112 rfl (zsub6 _ _) (by decide) rfl (q := 115) rfl ?_
        refine zGoto d_X12_pattern_115 (q := 42) (by decide) ?_
        refine zSub [0, 2, 3, 4, 5, 6] rfl ?_
        exact ih hj11 c b t (by omega) ht hb hx
      · have hlt : i < 15 := by have := i7.mp (Int32.not_lt.mp h56); omega
        rw [zfor_step (n := 15) hlt] at hx
        refine zAloadN d_X12_pattern_59 rfl rfl (q := 60) rfl ?_
        refine zIloadN d_X12_pattern_60 rfl rfl (q := 61) rfl ?_
        refine zIload d_X12_pattern_61 rfl (q := 63) rfl ?_
        refine zIload d_X12_pattern_63 rfl (q := 65) rfl ?_
        refine zIloadN d_X12_pattern_65 rfl rfl (q := 66) rfl ?_
        refine zIconst d_X12_pattern_66 (v := 1) ic_1 (q := 67) rfl ?_
        refine zIcmp_le d_X12_pattern_67 (tgt := 74) (q := 70) (by decide) rfl (fun h67 => ?_) (fun h67 => ?_)
        · have em : (if w0 < 2 then (0 : Int32) else 1) = 0 := if_pos (by grind)
          refine zIconst d_X12_pattern_74 (v := 0) ic_0 (q := 75) rfl ?_
          refine zCallVP d_X12_pattern_75 ml_X12_342 k_X12_comesOn ki_X12_comesOn ks_X12_comesOn (sp_X12_comesOn (d := d - 1) (by omega) hM hK hH hq hm hm2) rfl rfl sh_64 (by decide) rfl (by decide) (Nat.le_of_ble_eq_true rfl) (by decide) (by omega) zns100 (q := 78) rfl ?_
          refine zIf_ne d_X12_pattern_78 (tgt := 84) (q := 81) (by decide) rfl (fun h78 => ?_) (fun h78 => ?_)
          · have hs := hstep true (by rw [efit, em]; exact decide_eq_true (bi_n0.mp h78))
            rw [if_pos rfl] at hs
            rw [hs] at hx
            refine zIloadN d_X12_pattern_84 rfl rfl (q := 85) rfl ?_
            refine zIf_ne d_X12_pattern_85 (tgt := 103) (q := 88) (by decide) rfl (fun h85 => ?_) (fun h85 => ?_)
            · have c0 : ¬ c = 0 := fun z => h85 (congrArg nI z)
              refine zIinc d_X12_pattern_103 rfl (zinc _) (by decide) rfl (q := 106) rfl ?_
              refine zIinc d_X12_pattern_106 rfl (zsub6 _ _) (by decide) rfl (q := 109) rfl ?_
              refine zGoto d_X12_pattern_109 (q := 52) (by decide) ?_
              refine zSub [0, 2, 3, 1, 4, 5, 6] rfl ?_
              first
              | exact ih2 hlt c b t (by omega) ht hb hx
              | exact ih2 hlt (c + 1) b _ (by omega) (by rw [ht]; exact nI_1 c) (hbo c0) hx
              | exact ih2 hlt (c + 1) _ _ (by omega) (by rw [ht]; exact nI_1 c) (hbn _ rfl c0) hx
            · have c0 : c = 0 := (nI_eq (b := 0) (by omega) (by decide)).mp h85
              refine zBipush d_X12_pattern_88 (v := 15) bc_15 (q := 90) rfl ?_
              refine zIload d_X12_pattern_90 rfl (q := 92) rfl ?_
              refine zIconst d_X12_pattern_92 (v := 5) ic_5 (q := 93) rfl ?_
              refine zIadd d_X12_pattern_93 (q := 94) rfl ?_
              refine zImul d_X12_pattern_94 (q := 95) rfl ?_
              refine zIload d_X12_pattern_95 rfl (q := 97) rfl ?_
              refine zIadd d_X12_pattern_97 (q := 98) rfl ?_
              refine zBipush d_X12_pattern_98 (v := 7) bc_7 (q := 100) rfl ?_
              refine zIadd d_X12_pattern_100 (q := 101) rfl ?_
              refine zIstore d_X12_pattern_101 (by decide) rfl (q := 103) rfl ?_
              refine zIinc d_X12_pattern_103 rfl (zinc _) (by decide) rfl (q := 106) rfl ?_
              refine zIinc d_X12_pattern_106 rfl (zsub6 _ _) (by decide) rfl (q := 109) rfl ?_
              refine zGoto d_X12_pattern_109 (q := 52) (by decide) ?_
              refine zSub [0, 3, 2, 1, 4, 5, 6] rfl ?_
              first
              | exact ih2 hlt c b t (by omega) ht hb hx
              | exact ih2 hlt (c + 1) b _ (by omega) (by rw [ht]; exact nI_1 c) (hbo c0) hx
              | exact ih2 hlt (c + 1) _ _ (by omega) (by rw [ht]; exact nI_1 c) (hbn _ rfl c0) hx
          · have hs := hstep false (by rw [efit, em]; exact decide_eq_false (bi_0.mp h78))
            rw [if_neg (by decide)] at hs
            rw [hs] at hx
            refine zGoto d_X12_pattern_81 (q := 106) (by decide) ?_
            refine zIinc d_X12_pattern_106 rfl (zsub6 _ _) (by decide) rfl (q := 109) rfl ?_
            refine zGoto d_X12_pattern_109 (q := 52) (by decide) ?_
            refine zSub [0, 1, 2, 3, 4, 5, 6] rfl ?_
            first
            | exact ih2 hlt c b t (by omega) ht hb hx
            | exact ih2 hlt (c + 1) b _ (by omega) (by rw [ht]; exact nI_1 c) (hbo c0) hx
            | exact ih2 hlt (c + 1) _ _ (by omega) (by rw [ht]; exact nI_1 c) (hbn _ rfl c0) hx
        · have em : (if w0 < 2 then (0 : Int32) else 1) = 1 := if_neg (by grind)
          refine zIconst d_X12_pattern_70 (v := 1) ic_1 (q := 71) rfl ?_
          refine zGoto d_X12_pattern_71 (q := 75) (by decide) ?_
          refine zCallVP d_X12_pattern_75 ml_X12_342 k_X12_comesOn ki_X12_comesOn ks_X12_comesOn (sp_X12_comesOn (d := d - 1) (by omega) hM hK hH hq hm hm2) rfl rfl sh_64 (by decide) rfl (by decide) (Nat.le_of_ble_eq_true rfl) (by decide) (by omega) zns100 (q := 78) rfl ?_
          refine zIf_ne d_X12_pattern_78 (tgt := 84) (q := 81) (by decide) rfl (fun h78 => ?_) (fun h78 => ?_)
          · have hs := hstep true (by rw [efit, em]; exact decide_eq_true (bi_n0.mp h78))
            rw [if_pos rfl] at hs
            rw [hs] at hx
            refine zIloadN d_X12_pattern_84 rfl rfl (q := 85) rfl ?_
            refine zIf_ne d_X12_pattern_85 (tgt := 103) (q := 88) (by decide) rfl (fun h85 => ?_) (fun h85 => ?_)
            · have c0 : ¬ c = 0 := fun z => h85 (congrArg nI z)
              refine zIinc d_X12_pattern_103 rfl (zinc _) (by decide) rfl (q := 106) rfl ?_
              refine zIinc d_X12_pattern_106 rfl (zsub6 _ _) (by decide) rfl (q := 109) rfl ?_
              refine zGoto d_X12_pattern_109 (q := 52) (by decide) ?_
              refine zSub [0, 2, 3, 1, 4, 5, 6] rfl ?_
              first
              | exact ih2 hlt c b t (by omega) ht hb hx
              | exact ih2 hlt (c + 1) b _ (by omega) (by rw [ht]; exact nI_1 c) (hbo c0) hx
              | exact ih2 hlt (c + 1) _ _ (by omega) (by rw [ht]; exact nI_1 c) (hbn _ rfl c0) hx
            · have c0 : c = 0 := (nI_eq (b := 0) (by omega) (by decide)).mp h85
              refine zBipush d_X12_pattern_88 (v := 15) bc_15 (q := 90) rfl ?_
              refine zIload d_X12_pattern_90 rfl (q := 92) rfl ?_
              refine zIconst d_X12_pattern_92 (v := 5) ic_5 (q := 93) rfl ?_
              refine zIadd d_X12_pattern_93 (q := 94) rfl ?_
              refine zImul d_X12_pattern_94 (q := 95) rfl ?_
              refine zIload d_X12_pattern_95 rfl (q := 97) rfl ?_
              refine zIadd d_X12_pattern_97 (q := 98) rfl ?_
              refine zBipush d_X12_pattern_98 (v := 7) bc_7 (q := 100) rfl ?_
              refine zIadd d_X12_pattern_100 (q := 101) rfl ?_
              refine zIstore d_X12_pattern_101 (by decide) rfl (q := 103) rfl ?_
              refine zIinc d_X12_pattern_103 rfl (zinc _) (by decide) rfl (q := 106) rfl ?_
              refine zIinc d_X12_pattern_106 rfl (zsub6 _ _) (by decide) rfl (q := 109) rfl ?_
              refine zGoto d_X12_pattern_109 (q := 52) (by decide) ?_
              refine zSub [0, 3, 2, 1, 4, 5, 6] rfl ?_
              first
              | exact ih2 hlt c b t (by omega) ht hb hx
              | exact ih2 hlt (c + 1) b _ (by omega) (by rw [ht]; exact nI_1 c) (hbo c0) hx
              | exact ih2 hlt (c + 1) _ _ (by omega) (by rw [ht]; exact nI_1 c) (hbn _ rfl c0) hx
          · have hs := hstep false (by rw [efit, em]; exact decide_eq_false (bi_0.mp h78))
            rw [if_neg (by decide)] at hs
            rw [hs] at hx
            refine zGoto d_X12_pattern_81 (q := 106) (by decide) ?_
            refine zIinc d_X12_pattern_106 rfl (zsub6 _ _) (by decide) rfl (q := 109) rfl ?_
            refine zGoto d_X12_pattern_109 (q := 52) (by decide) ?_
            refine zSub [0, 1, 2, 3, 4, 5, 6] rfl ?_
            first
            | exact ih2 hlt c b t (by omega) ht hb hx
            | exact ih2 hlt (c + 1) b _ (by omega) (by rw [ht]; exact nI_1 c) (hbo c0) hx
            | exact ih2 hlt (c + 1) _ _ (by omega) (by rw [ht]; exact nI_1 c) (hbn _ rfl c0) hx
    have j5 : nI j - 5 ≤ 5 ↔ j ≤ 10 := zsub5 (a := j) (b := 5) (c := 5) (by omega) (by decide) (by decide)
    refine zIload d_X12_pattern_42 rfl (q := 44) rfl ?_
    refine zIconst d_X12_pattern_44 (v := 5) ic_5 (q := 45) rfl ?_
    refine zIcmp_gt d_X12_pattern_45 (tgt := 118) (q := 48) (by decide) rfl (fun h45 => ?_) (fun h45 => ?_)
    · have e : j = 11 := by rcases Nat.lt_or_ge j 11 with z | z; exact absurd (j5.mpr (by omega)) (Int32.not_le.mpr h45); omega
      rw [zfor_end (by omega)] at hx
      subst hx
      rw [if_neg (fun z => z hc), if_neg (fun z => z hv)]
      refine zIloadN d_X12_pattern_118 rfl rfl (q := 119) rfl ?_
      refine zIconst d_X12_pattern_119 (v := 2) ic_2 (q := 120) rfl ?_
      refine zIrem d_X12_pattern_120 (by decide) (q := 121) rfl ?_
      refine zIf_ne d_X12_pattern_121 (tgt := 128) (q := 124) (by decide) rfl (fun h121 => ?_) (fun h121 => ?_)
      · rw [if_neg h121]
        refine zIload d_X12_pattern_128 rfl (q := 130) rfl ?_
        refine zIret d_X12_pattern_130 rfl rfl rfl ?_
        first
        | exact zPi ht.symm
        | (rcases hb with ⟨z1, z2⟩ | ⟨z1, z2⟩; (rw [if_pos (by rw [ht, z1]; rfl)]; exact zPi z2); (rw [if_neg (by rw [ht]; exact nI_ne0 z1 (by omega))]; exact zPi z2))
      · rw [if_pos h121]
        refine zIloadN d_X12_pattern_124 rfl rfl (q := 125) rfl ?_
        refine zGoto d_X12_pattern_125 (q := 130) (by decide) ?_
        refine zIret d_X12_pattern_130 rfl rfl rfl ?_
        first
        | exact zPi ht.symm
        | (rcases hb with ⟨z1, z2⟩ | ⟨z1, z2⟩; (rw [if_pos (by rw [ht, z1]; rfl)]; exact zPi z2); (rw [if_neg (by rw [ht]; exact nI_ne0 z1 (by omega))]; exact zPi z2))
    · have hlt : j < 11 := by have := j5.mp (Int32.not_lt.mp h45); omega
      rw [zfor_step hlt] at hx
      refine zBipush d_X12_pattern_48 (v := -7) bc_m7 (q := 50) rfl ?_
      refine zIstore d_X12_pattern_50 (by decide) rfl (q := 52) rfl ?_
      refine zSub [0, 1, 2, 3, 4, 5, 6] rfl ?_
      exact inner hlt 0 (Nat.zero_le _) c b t hcj ht hb hx
  refine zSp_of (lv := [(0, .ref 64), (1, .int (nI q)), (2, .int w0)]) k_X12_pattern rfl (Nat.le_of_ble_eq_true rfl) ?_
  refine zIloadN d_X12_pattern_0 rfl rfl (q := 1) rfl ?_
  refine zCallSP d_X12_pattern_1 ml_X12_152 k_X12_isShelf kt_X12_isShelf (sp_X12_isShelf (d := d - 1) (by omega) ) rfl rfl (Nat.le_of_ble_eq_true rfl) (by decide) (by omega) zns100 (q := 4) rfl ?_
  refine zIf_eq d_X12_pattern_4 (tgt := 16) (q := 7) (by decide) rfl (fun h => absurd h (zshelf_in hq)) (fun h4 => ?_)
  refine zIloadN d_X12_pattern_7 rfl rfl (q := 8) rfl ?_
  refine zIconst d_X12_pattern_8 (v := 0) ic_0 (q := 9) rfl ?_
  refine zIconst d_X12_pattern_9 (v := 3) ic_3 (q := 10) rfl ?_
  refine zCallSP d_X12_pattern_10 ml_X12_127 k_X12_in kt_X12_in (sp_X12_in (d := d - 1) (by omega) ) rfl rfl (Nat.le_of_ble_eq_true rfl) (by decide) (by omega) zns100 (q := 13) rfl ?_
  refine zIf_ne d_X12_pattern_13 (tgt := 18) (q := 16) (by decide) rfl (fun h13 => ?_) (fun h13 => ?_)
  · have hc := bi_n0.mp h13
    refine zAloadN d_X12_pattern_18 rfl rfl (q := 19) rfl ?_
    refine zIloadN d_X12_pattern_19 rfl rfl (q := 20) rfl ?_
    refine zCallVP d_X12_pattern_20 ml_X12_279 k_X12_rowFault ki_X12_rowFault ks_X12_rowFault (sp_X12_rowFault (d := d - 1) (by omega) hH hBh hn50 hq) rfl rfl sh_64 (by decide) rfl (by decide) (Nat.le_of_ble_eq_true rfl) (by decide) (by omega) zns100 (q := 23) rfl ?_
    refine zIf_ge d_X12_pattern_23 (tgt := 32) (q := 26) (by decide) rfl (fun h23 => ?_) (fun h23 => ?_)
    · have hv : V (42 + 2 * q) 1 = 0 := Decidable.byContradiction (fun z => by rw [if_neg z] at h23; revert h23; split <;> decide)
      refine zIconst d_X12_pattern_32 (v := 0) ic_0 (q := 33) rfl ?_
      refine zIstoreN d_X12_pattern_33 rfl (by decide) rfl (q := 34) rfl ?_
      refine zBipush d_X12_pattern_34 (v := -2) bc_m2 (q := 36) rfl ?_
      refine zIstore d_X12_pattern_36 (by decide) rfl (q := 38) rfl ?_
      refine zBipush d_X12_pattern_38 (v := -5) bc_m5 (q := 40) rfl ?_
      refine zIstore d_X12_pattern_40 (by decide) rfl (q := 42) rfl ?_
      refine zSub [0, 1, 2, 3, 4, 5] rfl ?_
      exact outer hc hv 0 (Nat.zero_le _) 0 (-2) (0, 0) (Nat.le_refl _) rfl (Or.inl ⟨rfl, rfl⟩) eA2.symm
    · have hv : ¬ V (42 + 2 * q) 1 = 0 := fun z => h23 (by rw [z]; decide)
      rw [if_neg (fun z => z hc), if_pos hv]
      refine zAloadN d_X12_pattern_26 rfl rfl (q := 27) rfl ?_
      refine zIloadN d_X12_pattern_27 rfl rfl (q := 28) rfl ?_
      refine zCallVP d_X12_pattern_28 ml_X12_279 k_X12_rowFault ki_X12_rowFault ks_X12_rowFault (sp_X12_rowFault (d := d - 1) (by omega) hH hBh hn50 hq) rfl rfl sh_64 (by decide) rfl (by decide) (Nat.le_of_ble_eq_true rfl) (by decide) (by omega) zns100 (q := 31) rfl ?_
      refine zIret d_X12_pattern_31 rfl rfl rfl ?_
      rw [if_neg hv]
      exact zPi rfl
  · rw [if_pos (bi_0.mp h13)]
    refine zIconst d_X12_pattern_16 (v := -1) ic_m1 (q := 17) rfl ?_
    refine zIret d_X12_pattern_17 rfl rfl rfl ?_
    exact zPi rfl
end S53

