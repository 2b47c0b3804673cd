theorem d_X11_drawn_0 : decode (zmc m_X11_drawn) 0 = .ok (.aload_n 0, 1) := by decide +kernel
theorem d_X11_drawn_1 : decode (zmc m_X11_drawn) 1 = .ok (.iload_n 2, 1) := by decide +kernel
theorem d_X11_drawn_2 : decode (zmc m_X11_drawn) 2 = .ok (.invokevirtual 95, 3) := by decide +kernel
theorem d_X11_drawn_5 : decode (zmc m_X11_drawn) 5 = .ok (.astore 5, 2) := by decide +kernel
theorem d_X11_drawn_7 : decode (zmc m_X11_drawn) 7 = .ok (.aload 5, 2) := by decide +kernel
theorem d_X11_drawn_9 : decode (zmc m_X11_drawn) 9 = .ok (.ifnull 14, 3) := by decide +kernel
theorem d_X11_drawn_12 : decode (zmc m_X11_drawn) 12 = .ok (.iload_n 3, 1) := by decide +kernel
theorem d_X11_drawn_13 : decode (zmc m_X11_drawn) 13 = .ok (.iconst 1, 1) := by decide +kernel
theorem d_X11_drawn_14 : decode (zmc m_X11_drawn) 14 = .ok (.if_icmp .lt 9, 3) := by decide +kernel
theorem d_X11_drawn_17 : decode (zmc m_X11_drawn) 17 = .ok (.iload_n 3, 1) := by decide +kernel
theorem d_X11_drawn_18 : decode (zmc m_X11_drawn) 18 = .ok (.bipush 30, 2) := by decide +kernel
theorem d_X11_drawn_20 : decode (zmc m_X11_drawn) 20 = .ok (.if_icmp .le 5, 3) := by decide +kernel
theorem d_X11_drawn_23 : decode (zmc m_X11_drawn) 23 = .ok (.iconst (-1), 1) := by decide +kernel
theorem d_X11_drawn_24 : decode (zmc m_X11_drawn) 24 = .ok (.ireturn, 1) := by decide +kernel
theorem d_X11_drawn_25 : decode (zmc m_X11_drawn) 25 = .ok (.iload 4, 2) := by decide +kernel
theorem d_X11_drawn_27 : decode (zmc m_X11_drawn) 27 = .ok (.iconst (-1), 1) := by decide +kernel
theorem d_X11_drawn_28 : decode (zmc m_X11_drawn) 28 = .ok (.if_icmp .eq 18, 3) := by decide +kernel
theorem d_X11_drawn_31 : decode (zmc m_X11_drawn) 31 = .ok (.aload_n 0, 1) := by decide +kernel
theorem d_X11_drawn_32 : decode (zmc m_X11_drawn) 32 = .ok (.getfield 10, 3) := by decide +kernel
theorem d_X11_drawn_35 : decode (zmc m_X11_drawn) 35 = .ok (.iconst 0, 1) := by decide +kernel
theorem d_X11_drawn_36 : decode (zmc m_X11_drawn) 36 = .ok (.iload 4, 2) := by decide +kernel
theorem d_X11_drawn_38 : decode (zmc m_X11_drawn) 38 = .ok (.invokevirtual 117, 3) := by decide +kernel
theorem d_X11_drawn_41 : decode (zmc m_X11_drawn) 41 = .ok (.ifCond .ne 5, 3) := by decide +kernel
theorem d_X11_drawn_44 : decode (zmc m_X11_drawn) 44 = .ok (.iconst (-1), 1) := by decide +kernel
theorem d_X11_drawn_45 : decode (zmc m_X11_drawn) 45 = .ok (.ireturn, 1) := by decide +kernel
theorem d_X11_drawn_46 : decode (zmc m_X11_drawn) 46 = .ok (.aload 5, 2) := by decide +kernel
theorem d_X11_drawn_48 : decode (zmc m_X11_drawn) 48 = .ok (.invokevirtual 103, 3) := by decide +kernel
theorem d_X11_drawn_51 : decode (zmc m_X11_drawn) 51 = .ok (.ifCond .ne 9, 3) := by decide +kernel
theorem d_X11_drawn_54 : decode (zmc m_X11_drawn) 54 = .ok (.aload 5, 2) := by decide +kernel
theorem d_X11_drawn_56 : decode (zmc m_X11_drawn) 56 = .ok (.invokevirtual 159, 3) := by decide +kernel
theorem d_X11_drawn_59 : decode (zmc m_X11_drawn) 59 = .ok (.ireturn, 1) := by decide +kernel
theorem d_X11_drawn_60 : decode (zmc m_X11_drawn) 60 = .ok (.aload_n 0, 1) := by decide +kernel
theorem d_X11_drawn_61 : decode (zmc m_X11_drawn) 61 = .ok (.getfield 42, 3) := by decide +kernel
theorem d_X11_drawn_64 : decode (zmc m_X11_drawn) 64 = .ok (.aload 5, 2) := by decide +kernel
theorem d_X11_drawn_66 : decode (zmc m_X11_drawn) 66 = .ok (.aload_n 0, 1) := by decide +kernel
theorem d_X11_drawn_67 : decode (zmc m_X11_drawn) 67 = .ok (.getfield 10, 3) := by decide +kernel
theorem d_X11_drawn_70 : decode (zmc m_X11_drawn) 70 = .ok (.aload_n 0, 1) := by decide +kernel
theorem d_X11_drawn_71 : decode (zmc m_X11_drawn) 71 = .ok (.getfield 84, 3) := by decide +kernel
theorem d_X11_drawn_74 : decode (zmc m_X11_drawn) 74 = .ok (.invokevirtual 163, 3) := by decide +kernel
theorem d_X11_drawn_77 : decode (zmc m_X11_drawn) 77 = .ok (.aload_n 0, 1) := by decide +kernel
theorem d_X11_drawn_78 : decode (zmc m_X11_drawn) 78 = .ok (.getfield 42, 3) := by decide +kernel
theorem d_X11_drawn_81 : decode (zmc m_X11_drawn) 81 = .ok (.iload_n 1, 1) := by decide +kernel
theorem d_X11_drawn_82 : decode (zmc m_X11_drawn) 82 = .ok (.putfield 272, 3) := by decide +kernel
theorem d_X11_drawn_85 : decode (zmc m_X11_drawn) 85 = .ok (.iconst 0, 1) := by decide +kernel
theorem d_X11_drawn_86 : decode (zmc m_X11_drawn) 86 = .ok (.istore 6, 2) := by decide +kernel
theorem d_X11_drawn_88 : decode (zmc m_X11_drawn) 88 = .ok (.iconst 0, 1) := by decide +kernel
theorem d_X11_drawn_89 : decode (zmc m_X11_drawn) 89 = .ok (.istore 7, 2) := by decide +kernel
theorem d_X11_drawn_91 : decode (zmc m_X11_drawn) 91 = .ok (.iload 7, 2) := by decide +kernel
theorem d_X11_drawn_93 : decode (zmc m_X11_drawn) 93 = .ok (.iload_n 3, 1) := by decide +kernel
theorem d_X11_drawn_94 : decode (zmc m_X11_drawn) 94 = .ok (.if_icmp .ge 59, 3) := by decide +kernel
theorem d_X11_drawn_97 : decode (zmc m_X11_drawn) 97 = .ok (.aload_n 0, 1) := by decide +kernel
theorem d_X11_drawn_98 : decode (zmc m_X11_drawn) 98 = .ok (.getfield 42, 3) := by decide +kernel
theorem d_X11_drawn_101 : decode (zmc m_X11_drawn) 101 = .ok (.aload_n 0, 1) := by decide +kernel
theorem d_X11_drawn_102 : decode (zmc m_X11_drawn) 102 = .ok (.getfield 10, 3) := by decide +kernel
theorem d_X11_drawn_105 : decode (zmc m_X11_drawn) 105 = .ok (.iconst 4, 1) := by decide +kernel
theorem d_X11_drawn_106 : decode (zmc m_X11_drawn) 106 = .ok (.invokevirtual 228, 3) := by decide +kernel
theorem d_X11_drawn_109 : decode (zmc m_X11_drawn) 109 = .ok (.invokevirtual 275, 3) := by decide +kernel
theorem d_X11_drawn_112 : decode (zmc m_X11_drawn) 112 = .ok (.istore 8, 2) := by decide +kernel
theorem d_X11_drawn_114 : decode (zmc m_X11_drawn) 114 = .ok (.iload 6, 2) := by decide +kernel
theorem d_X11_drawn_116 : decode (zmc m_X11_drawn) 116 = .ok (.iload 4, 2) := by decide +kernel
theorem d_X11_drawn_118 : decode (zmc m_X11_drawn) 118 = .ok (.iconst (-1), 1) := by decide +kernel
theorem d_X11_drawn_119 : decode (zmc m_X11_drawn) 119 = .ok (.if_icmp .ne 18, 3) := by decide +kernel
theorem d_X11_drawn_122 : decode (zmc m_X11_drawn) 122 = .ok (.aload_n 0, 1) := by decide +kernel
theorem d_X11_drawn_123 : decode (zmc m_X11_drawn) 123 = .ok (.getfield 21, 3) := by decide +kernel
theorem d_X11_drawn_126 : decode (zmc m_X11_drawn) 126 = .ok (.iload 8, 2) := by decide +kernel
theorem d_X11_drawn_128 : decode (zmc m_X11_drawn) 128 = .ok (.invokevirtual 231, 3) := by decide +kernel
theorem d_X11_drawn_131 : decode (zmc m_X11_drawn) 131 = .ok (.invokestatic 195, 3) := by decide +kernel
theorem d_X11_drawn_134 : decode (zmc m_X11_drawn) 134 = .ok (.goto 10, 3) := by decide +kernel
theorem d_X11_drawn_137 : decode (zmc m_X11_drawn) 137 = .ok (.iload 8, 2) := by decide +kernel
theorem d_X11_drawn_139 : decode (zmc m_X11_drawn) 139 = .ok (.iload 4, 2) := by decide +kernel
theorem d_X11_drawn_141 : decode (zmc m_X11_drawn) 141 = .ok (.ishr, 1) := by decide +kernel
theorem d_X11_drawn_142 : decode (zmc m_X11_drawn) 142 = .ok (.iconst 1, 1) := by decide +kernel
theorem d_X11_drawn_143 : decode (zmc m_X11_drawn) 143 = .ok (.iand, 1) := by decide +kernel
theorem d_X11_drawn_144 : decode (zmc m_X11_drawn) 144 = .ok (.iadd, 1) := by decide +kernel
theorem d_X11_drawn_145 : decode (zmc m_X11_drawn) 145 = .ok (.istore 6, 2) := by decide +kernel
theorem d_X11_drawn_147 : decode (zmc m_X11_drawn) 147 = .ok (.iinc 7 1, 3) := by decide +kernel
theorem d_X11_drawn_150 : decode (zmc m_X11_drawn) 150 = .ok (.goto (-59), 3) := by decide +kernel
theorem d_X11_drawn_153 : decode (zmc m_X11_drawn) 153 = .ok (.iload 6, 2) := by decide +kernel
theorem d_X11_drawn_155 : decode (zmc m_X11_drawn) 155 = .ok (.ireturn, 1) := by decide +kernel
theorem d_X11_shift_0 : decode (zmc m_X11_shift) 0 = .ok (.aload_n 0, 1) := by decide +kernel
theorem d_X11_shift_1 : decode (zmc m_X11_shift) 1 = .ok (.iload_n 1, 1) := by decide +kernel
theorem d_X11_shift_2 : decode (zmc m_X11_shift) 2 = .ok (.invokevirtual 95, 3) := by decide +kernel
theorem d_X11_shift_5 : decode (zmc m_X11_shift) 5 = .ok (.astore 6, 2) := by decide +kernel
theorem d_X11_shift_7 : decode (zmc m_X11_shift) 7 = .ok (.aload_n 0, 1) := by decide +kernel
theorem d_X11_shift_8 : decode (zmc m_X11_shift) 8 = .ok (.iload_n 3, 1) := by decide +kernel
theorem d_X11_shift_9 : decode (zmc m_X11_shift) 9 = .ok (.invokevirtual 95, 3) := by decide +kernel
theorem d_X11_shift_12 : decode (zmc m_X11_shift) 12 = .ok (.astore 7, 2) := by decide +kernel
theorem d_X11_shift_14 : decode (zmc m_X11_shift) 14 = .ok (.aload 6, 2) := by decide +kernel
theorem d_X11_shift_16 : decode (zmc m_X11_shift) 16 = .ok (.ifnull 8, 3) := by decide +kernel
theorem d_X11_shift_19 : decode (zmc m_X11_shift) 19 = .ok (.aload 7, 2) := by decide +kernel
theorem d_X11_shift_21 : decode (zmc m_X11_shift) 21 = .ok (.ifnonnull 5, 3) := by decide +kernel
theorem d_X11_shift_24 : decode (zmc m_X11_shift) 24 = .ok (.iconst (-1), 1) := by decide +kernel
theorem d_X11_shift_25 : decode (zmc m_X11_shift) 25 = .ok (.ireturn, 1) := by decide +kernel
theorem d_X11_shift_26 : decode (zmc m_X11_shift) 26 = .ok (.aload 6, 2) := by decide +kernel
theorem d_X11_shift_28 : decode (zmc m_X11_shift) 28 = .ok (.invokevirtual 99, 3) := by decide +kernel
theorem d_X11_shift_31 : decode (zmc m_X11_shift) 31 = .ok (.ifCond .ne 11, 3) := by decide +kernel
theorem d_X11_shift_34 : decode (zmc m_X11_shift) 34 = .ok (.aload 7, 2) := by decide +kernel
theorem d_X11_shift_36 : decode (zmc m_X11_shift) 36 = .ok (.invokevirtual 99, 3) := by decide +kernel
theorem d_X11_shift_39 : decode (zmc m_X11_shift) 39 = .ok (.ifCond .eq 6, 3) := by decide +kernel
theorem d_X11_shift_42 : decode (zmc m_X11_shift) 42 = .ok (.bipush (-11), 2) := by decide +kernel
theorem d_X11_shift_44 : decode (zmc m_X11_shift) 44 = .ok (.ireturn, 1) := by decide +kernel
theorem d_X11_shift_45 : decode (zmc m_X11_shift) 45 = .ok (.aload 6, 2) := by decide +kernel
theorem d_X11_shift_47 : decode (zmc m_X11_shift) 47 = .ok (.invokevirtual 332, 3) := by decide +kernel
theorem d_X11_shift_50 : decode (zmc m_X11_shift) 50 = .ok (.ifCond .eq 16, 3) := by decide +kernel
theorem d_X11_shift_53 : decode (zmc m_X11_shift) 53 = .ok (.aload 6, 2) := by decide +kernel
theorem d_X11_shift_55 : decode (zmc m_X11_shift) 55 = .ok (.getfield 346, 3) := by decide +kernel
theorem d_X11_shift_58 : decode (zmc m_X11_shift) 58 = .ok (.aload 7, 2) := by decide +kernel
theorem d_X11_shift_60 : decode (zmc m_X11_shift) 60 = .ok (.getfield 346, 3) := by decide +kernel
theorem d_X11_shift_63 : decode (zmc m_X11_shift) 63 = .ok (.if_icmp .eq 6, 3) := by decide +kernel
theorem d_X11_shift_66 : decode (zmc m_X11_shift) 66 = .ok (.bipush (-12), 2) := by decide +kernel
theorem d_X11_shift_68 : decode (zmc m_X11_shift) 68 = .ok (.ireturn, 1) := by decide +kernel
theorem d_X11_shift_69 : decode (zmc m_X11_shift) 69 = .ok (.iload 5, 2) := by decide +kernel
theorem d_X11_shift_71 : decode (zmc m_X11_shift) 71 = .ok (.ifCond .lt 26, 3) := by decide +kernel
theorem d_X11_shift_74 : decode (zmc m_X11_shift) 74 = .ok (.aload 6, 2) := by decide +kernel
theorem d_X11_shift_76 : decode (zmc m_X11_shift) 76 = .ok (.iload_n 2, 1) := by decide +kernel
theorem d_X11_shift_77 : decode (zmc m_X11_shift) 77 = .ok (.iload 5, 2) := by decide +kernel
theorem d_X11_shift_79 : decode (zmc m_X11_shift) 79 = .ok (.invokevirtual 349, 3) := by decide +kernel
theorem d_X11_shift_82 : decode (zmc m_X11_shift) 82 = .ok (.ifCond .eq 15, 3) := by decide +kernel
theorem d_X11_shift_85 : decode (zmc m_X11_shift) 85 = .ok (.aload 7, 2) := by decide +kernel
theorem d_X11_shift_87 : decode (zmc m_X11_shift) 87 = .ok (.iload 4, 2) := by decide +kernel
theorem d_X11_shift_89 : decode (zmc m_X11_shift) 89 = .ok (.iload 5, 2) := by decide +kernel
theorem d_X11_shift_91 : decode (zmc m_X11_shift) 91 = .ok (.invokevirtual 349, 3) := by decide +kernel
theorem d_X11_shift_94 : decode (zmc m_X11_shift) 94 = .ok (.ifCond .ne 6, 3) := by decide +kernel
theorem d_X11_shift_97 : decode (zmc m_X11_shift) 97 = .ok (.bipush (-13), 2) := by decide +kernel
theorem d_X11_shift_99 : decode (zmc m_X11_shift) 99 = .ok (.ireturn, 1) := by decide +kernel
theorem d_X11_shift_100 : decode (zmc m_X11_shift) 100 = .ok (.aload 6, 2) := by decide +kernel
theorem d_X11_shift_102 : decode (zmc m_X11_shift) 102 = .ok (.getfield 342, 3) := by decide +kernel
theorem d_X11_shift_105 : decode (zmc m_X11_shift) 105 = .ok (.iload_n 2, 1) := by decide +kernel
theorem d_X11_shift_106 : decode (zmc m_X11_shift) 106 = .ok (.aload 7, 2) := by decide +kernel
theorem d_X11_shift_108 : decode (zmc m_X11_shift) 108 = .ok (.getfield 342, 3) := by decide +kernel
theorem d_X11_shift_111 : decode (zmc m_X11_shift) 111 = .ok (.iload 4, 2) := by decide +kernel
theorem d_X11_shift_113 : decode (zmc m_X11_shift) 113 = .ok (.iload 5, 2) := by decide +kernel
theorem d_X11_shift_115 : decode (zmc m_X11_shift) 115 = .ok (.invokestatic 352, 3) := by decide +kernel
theorem d_X11_shift_118 : decode (zmc m_X11_shift) 118 = .ok (.iload 5, 2) := by decide +kernel
theorem d_X11_shift_120 : decode (zmc m_X11_shift) 120 = .ok (.ireturn, 1) := by decide +kernel
/-! WHAT A WATCH ANSWERS, THE LAST -/
theorem zPw_S {I : Nat → Nat → Int32} {L : Nat → Nat → Int64} {r n : Nat} {S O O' : Nat → Int32} (e1 : ∀ i, i < n → S i = zPw I L r i) (e2 : ∀ i, i < n → O i = O' i) (s : Int32 × Int32) : zNt S O n s = zNt (zPw I L r) O' n s := by
  unfold zNt
  exact zfor_congr (fun j t _ hj => by rw [e1 j hj, e2 j hj])
def zDrS (I : Nat → Nat → Int32) (ns nh : Nat) (S O : Nat → Int32) (n : Nat) (star : Int32) (s : Int32 × Int32) : Int32 × Int32 :=
  (s.1 + (if star = -1 then zbc (zSteer I nh (zNt S O n (zbits (I 7) ns, s.2)).1) else ((zNt S O n (zbits (I 7) ns, s.2)).1 >>> (star &&& 31)) &&& 1), (zNt S O n (zbits (I 7) ns, s.2)).2)
section S37
variable {g : zG} {l : Launch} {d : Nat} {I : Nat → Nat → Int32} {L : Nat → Nat → Int64} {fs : Nat × Nat × Option Nat} {ns nt nh h h2 : Nat} {o : Option Nat}
theorem sp_X11_shift0 {i j i0 j0 n : Int32} (hd : 2 ≤ d) (hi : ¬ (0 ≤ i ∧ i < 6) ∨ ¬ (0 ≤ j ∧ j < 6)) : zPure g l d m_X11_shift [.ref 0, .int i, .int i0, .int j, .int j0, .int n] I L fs (.int (-1)) := by
  rcases Decidable.em (0 ≤ i ∧ i < 6) with hc | hc
  · have hj := hi.resolve_left (fun q => q hc)
    obtain ⟨k, hk, rfl⟩ := zn1 (x := i) (n := 6) (by omega) hc.1 hc.2
    refine zSp_of (lv := [(0, .ref 0), (1, .int (nI k)), (2, .int i0), (3, .int j), (4, .int j0), (5, .int n)]) k_X11_shift rfl (Nat.le_of_ble_eq_true rfl) ?_
    refine zAloadN d_X11_shift_0 rfl rfl (q := 1) rfl ?_
    refine zIloadN d_X11_shift_1 rfl rfl (q := 2) rfl ?_
    refine zCallVP d_X11_shift_2 ml_X11_95 k_X11_shelfAt ki_X11_shelfAt ks_X11_shelfAt (sp_shelf (d := d - 1) (by omega) hk) rfl rfl sh_0 (by decide) rfl (by decide) (Nat.le_of_ble_eq_true rfl) (by decide) (by omega) zns100 (q := 5) rfl ?_
    refine zAstore d_X11_shift_5 (by decide) rfl (q := 7) rfl ?_
    refine zAloadN d_X11_shift_7 rfl rfl (q := 8) rfl ?_
    refine zIloadN d_X11_shift_8 rfl rfl (q := 9) rfl ?_
    refine zCallVP d_X11_shift_9 ml_X11_95 k_X11_shelfAt ki_X11_shelfAt ks_X11_shelfAt (sp_shelf0 (d := d - 1) (by omega) hj) rfl rfl sh_0 (by decide) rfl (by decide) (Nat.le_of_ble_eq_true rfl) (by decide) (by omega) zns100 (q := 12) rfl ?_
    refine zAstore0 d_X11_shift_12 (by decide) rfl (q := 14) rfl ?_
    refine zAload d_X11_shift_14 rfl (q := 16) rfl ?_
    refine zIfnull d_X11_shift_16 (q := 19) rfl ?_
    refine zAload0 d_X11_shift_19 rfl (q := 21) rfl ?_
    refine zIfnonnull0 d_X11_shift_21 (q := 24) rfl ?_
    refine zIconst d_X11_shift_24 (v := -1) ic_m1 (q := 25) rfl ?_
    refine zIret d_X11_shift_25 rfl rfl rfl ?_
    exact zPi rfl
  · rcases Decidable.em (0 ≤ j ∧ j < 6) with hj | hj
    · obtain ⟨k, hk, rfl⟩ := zn1 (x := j) (n := 6) (by omega) hj.1 hj.2
      refine zSp_of (lv := [(0, .ref 0), (1, .int i), (2, .int i0), (3, .int (nI k)), (4, .int j0), (5, .int n)]) k_X11_shift rfl (Nat.le_of_ble_eq_true rfl) ?_
      refine zAloadN d_X11_shift_0 rfl rfl (q := 1) rfl ?_
      refine zIloadN d_X11_shift_1 rfl rfl (q := 2) rfl ?_
      refine zCallVP d_X11_shift_2 ml_X11_95 k_X11_shelfAt ki_X11_shelfAt ks_X11_shelfAt (sp_shelf0 (d := d - 1) (by omega) hc) rfl rfl sh_0 (by decide) rfl (by decide) (Nat.le_of_ble_eq_true rfl) (by decide) (by omega) zns100 (q := 5) rfl ?_
      refine zAstore0 d_X11_shift_5 (by decide) rfl (q := 7) rfl ?_
      refine zAloadN d_X11_shift_7 rfl rfl (q := 8) rfl ?_
      refine zIloadN d_X11_shift_8 rfl rfl (q := 9) rfl ?_
      refine zCallVP d_X11_shift_9 ml_X11_95 k_X11_shelfAt ki_X11_shelfAt ks_X11_shelfAt (sp_shelf (d := d - 1) (by omega) hk) rfl rfl sh_0 (by decide) rfl (by decide) (Nat.le_of_ble_eq_true rfl) (by decide) (by omega) zns100 (q := 12) rfl ?_
      refine zAstore d_X11_shift_12 (by decide) rfl (q := 14) rfl ?_
      refine zAload0 d_X11_shift_14 rfl (q := 16) rfl ?_
      refine zIfnull0 d_X11_shift_16 (q := 24) (by decide) ?_
      refine zIconst d_X11_shift_24 (v := -1) ic_m1 (q := 25) rfl ?_
      refine zIret d_X11_shift_25 rfl rfl rfl ?_
      exact zPi rfl
    ·
      refine zSp_of (lv := [(0, .ref 0), (1, .int i), (2, .int i0), (3, .int j), (4, .int j0), (5, .int n)]) k_X11_shift rfl (Nat.le_of_ble_eq_true rfl) ?_
      refine zAloadN d_X11_shift_0 rfl rfl (q := 1) rfl ?_
      refine zIloadN d_X11_shift_1 rfl rfl (q := 2) rfl ?_
      refine zCallVP d_X11_shift_2 ml_X11_95 k_X11_shelfAt ki_X11_shelfAt ks_X11_shelfAt (sp_shelf0 (d := d - 1) (by omega) hc) rfl rfl sh_0 (by decide) rfl (by decide) (Nat.le_of_ble_eq_true rfl) (by decide) (by omega) zns100 (q := 5) rfl ?_
      refine zAstore0 d_X11_shift_5 (by decide) rfl (q := 7) rfl ?_
      refine zAloadN d_X11_shift_7 rfl rfl (q := 8) rfl ?_
      refine zIloadN d_X11_shift_8 rfl rfl (q := 9) rfl ?_
      refine zCallVP d_X11_shift_9 ml_X11_95 k_X11_shelfAt ki_X11_shelfAt ks_X11_shelfAt (sp_shelf0 (d := d - 1) (by omega) hj) rfl rfl sh_0 (by decide) rfl (by decide) (Nat.le_of_ble_eq_true rfl) (by decide) (by omega) zns100 (q := 12) rfl ?_
      refine zAstore0 d_X11_shift_12 (by decide) rfl (q := 14) rfl ?_
      refine zAload0 d_X11_shift_14 rfl (q := 16) rfl ?_
      refine zIfnull0 d_X11_shift_16 (q := 24) (by decide) ?_
      refine zIconst d_X11_shift_24 (v := -1) ic_m1 (q := 25) rfl ?_
      refine zIret d_X11_shift_25 rfl rfl rfl ?_
      exact zPi rfl
/-- a run of n places from i on, of m -/
abbrev zRunIn (i n M : Int32) : Prop := 0 ≤ i ∧ i ≤ M ∧ n ≤ M - i
theorem zRunIn_of {i n : Int32} {m : Nat} (hm : m ≤ 60) (hn : 0 ≤ n) (h : zRunIn i n (nI m)) : ∃ a c : Nat, i = nI a ∧ n = nI c ∧ a + c ≤ m := by
  obtain ⟨h1, h2, h3⟩ := h
  obtain ⟨a, ha, rfl⟩ := zn0 (x := i) (Int32.not_lt.mpr h1)
  have h4 : a ≤ m := nle (a := m) (b := a) h2
  rw [nI_sub2 h4] at h3
  obtain ⟨c, hc, rfl⟩ := zn0 (x := n) (Int32.not_lt.mpr hn)
  have h5 : c ≤ m - a := nle (a := m - a) (b := c) h3
  exact ⟨a, c, rfl, rfl, by omega⟩
theorem sp_X11_shift {k q m1 m2 : Nat} {i0 j0 n : Int32} (hd : 3 ≤ d) (hk : k < 6) (hq : q < 6) (hm1 : I (42 + 2 * k) 2 = nI m1) (h60 : m1 ≤ 60) (hm2 : I (42 + 2 * q) 2 = nI m2) (h62 : m2 ≤ 60) : zSp g l d 100 m_X11_shift [.ref 0, .int (nI k), .int i0, .int (nI q), .int j0, .int n] (zU I L fs) (zX (fun x w =>
    ((I (42 + 2 * k) 1 = -1 ∨ I (42 + 2 * q) 1 = -1) ∧ x = -11 ∧ w = zU I L fs) ∨
    (¬ (I (42 + 2 * k) 1 = -1 ∨ I (42 + 2 * q) 1 = -1) ∧ ¬ ((0 ≤ I (42 + 2 * k) 1 ∧ I (42 + 2 * k) 1 ≤ 4) ∧ I (42 + 2 * k) 1 = I (42 + 2 * q) 1) ∧ x = -12 ∧ w = zU I L fs) ∨
    (¬ (I (42 + 2 * k) 1 = -1 ∨ I (42 + 2 * q) 1 = -1) ∧ ((0 ≤ I (42 + 2 * k) 1 ∧ I (42 + 2 * k) 1 ≤ 4) ∧ I (42 + 2 * k) 1 = I (42 + 2 * q) 1) ∧ ¬ (0 ≤ n ∧ zRunIn i0 n (nI m1) ∧ zRunIn j0 n (nI m2)) ∧ x = -13 ∧ w = zU I L fs) ∨
    (¬ (I (42 + 2 * k) 1 = -1 ∨ I (42 + 2 * q) 1 = -1) ∧ ((0 ≤ I (42 + 2 * k) 1 ∧ I (42 + 2 * k) 1 ≤ 4) ∧ I (42 + 2 * k) 1 = I (42 + 2 * q) 1) ∧ (0 ≤ n ∧ zRunIn i0 n (nI m1) ∧ zRunIn j0 n (nI m2)) ∧ x = n ∧
      w = zU I (zup L (43 + 2 * q) (va_cpy (L (43 + 2 * k)) (L (43 + 2 * q)) i0.toNatClampNeg j0.toNatClampNeg n.toNatClampNeg)) fs))) := by
  have hh := zshf hk
  have hh2 := zshf hq
  have e43 : 42 + 2 * q + 1 = 43 + 2 * q := by omega
  have e44 : 42 + 2 * k + 1 = 43 + 2 * k := by omega
  have fin : ¬ (I (42 + 2 * k) 1 = -1 ∨ I (42 + 2 * q) 1 = -1) → ((0 ≤ I (42 + 2 * k) 1 ∧ I (42 + 2 * k) 1 ≤ 4) ∧ I (42 + 2 * k) 1 = I (42 + 2 * q) 1) → (0 ≤ n ∧ zRunIn i0 n (nI m1) ∧ zRunIn j0 n (nI m2)) → ∀ st, zA g l d m_X11_shift I L fs 100 [(7, .ref (42 + 2 * q)), (6, .ref (42 + 2 * k)), (2, .int i0), (4, .int j0), (5, .int n)] st → zA g l d m_X11_shift I L fs 100 [(7, .ref (42 + 2 * q)), (6, .ref (42 + 2 * k)), (2, .int i0), (4, .int j0), (5, .int n)] st := fun _ _ _ _ h => h
  refine zSp_of (lv := [(0, .ref 0), (1, .int (nI k)), (2, .int i0), (3, .int (nI q)), (4, .int j0), (5, .int n)]) k_X11_shift rfl (Nat.le_of_ble_eq_true rfl) ?_
  refine zAloadN d_X11_shift_0 rfl rfl (q := 1) rfl ?_
  refine zIloadN d_X11_shift_1 rfl rfl (q := 2) rfl ?_
  refine zCallVP d_X11_shift_2 ml_X11_95 k_X11_shelfAt ki_X11_shelfAt ks_X11_shelfAt (sp_shelf (d := d - 1) (by omega) hk) rfl rfl sh_0 (by decide) rfl (by decide) (Nat.le_of_ble_eq_true rfl) (by decide) (by omega) zns100 (q := 5) rfl ?_
  refine zAstore d_X11_shift_5 (by decide) rfl (q := 7) rfl ?_
  refine zAloadN d_X11_shift_7 rfl rfl (q := 8) rfl ?_
  refine zIloadN d_X11_shift_8 rfl rfl (q := 9) rfl ?_
  refine zCallVP d_X11_shift_9 ml_X11_95 k_X11_shelfAt ki_X11_shelfAt ks_X11_shelfAt (sp_shelf (d := d - 1) (by omega) hq) rfl rfl sh_0 (by decide) rfl (by decide) (Nat.le_of_ble_eq_true rfl) (by decide) (by omega) zns100 (q := 12) rfl ?_
  refine zAstore d_X11_shift_12 (by decide) rfl (q := 14) rfl ?_
  refine zAload d_X11_shift_14 rfl (q := 16) rfl ?_
  refine zIfnull d_X11_shift_16 (q := 19) rfl ?_
  refine zAload d_X11_shift_19 rfl (q := 21) rfl ?_
  refine zIfnonnull d_X11_shift_21 (q := 26) (by decide) ?_
  refine zAload d_X11_shift_26 rfl (q := 28) rfl ?_
  refine zCallVP d_X11_shift_28 ml_X11_99 k_X8_isEmpty ki_X8_isEmpty ks_X8_isEmpty (sp_X8_isEmpty (d := d - 1) (by omega) hh) rfl rfl hh.1 (by decide) rfl (Nat.lt_of_succ_lt hh.2.2.1) (Nat.le_of_ble_eq_true rfl) (by decide) (by omega) zns100 (q := 31) rfl ?_
  refine zIf_ne d_X11_shift_31 (tgt := 42) (q := 34) (by decide) rfl (fun h31 => ?_) (fun h31 => ?_)
  · have c1 : I (42 + 2 * k) 1 = -1 ∨ I (42 + 2 * q) 1 = -1 := Or.inl (bi_n0.mp h31)
    refine zBipush d_X11_shift_42 (v := -11) bc_m11 (q := 44) rfl ?_
    refine zIret d_X11_shift_44 rfl rfl rfl ?_
    exact ⟨_, rfl, Or.inl ⟨c1, rfl, rfl⟩⟩
  · refine zAload d_X11_shift_34 rfl (q := 36) rfl ?_
    refine zCallVP d_X11_shift_36 ml_X11_99 k_X8_isEmpty ki_X8_isEmpty ks_X8_isEmpty (sp_X8_isEmpty (d := d - 1) (by omega) hh2) rfl rfl hh2.1 (by decide) rfl (Nat.lt_of_succ_lt hh2.2.2.1) (Nat.le_of_ble_eq_true rfl) (by decide) (by omega) zns100 (q := 39) rfl ?_
    refine zIf_eq d_X11_shift_39 (tgt := 45) (q := 42) (by decide) rfl (fun h39 => ?_) (fun h39 => ?_)
    · have c1 : ¬ (I (42 + 2 * k) 1 = -1 ∨ I (42 + 2 * q) 1 = -1) := fun z => by rcases z with z | z; exact (bi_0.mp (by simpa using h31)) z; exact (bi_0.mp h39) z
      refine zAload d_X11_shift_45 rfl (q := 47) rfl ?_
      refine zCallVP d_X11_shift_47 ml_X11_332 k_X8_isRow ki_X8_isRow ks_X8_isRow (sp_X8_isRow (d := d - 1) (by omega) hh) rfl rfl hh.1 (by decide) rfl (Nat.lt_of_succ_lt hh.2.2.1) (Nat.le_of_ble_eq_true rfl) (by decide) (by omega) zns100 (q := 50) rfl ?_
      refine zIf_eq d_X11_shift_50 (tgt := 66) (q := 53) (by decide) rfl (fun h50 => ?_) (fun h50 => ?_)
      · have c2 : ¬ ((0 ≤ I (42 + 2 * k) 1 ∧ I (42 + 2 * k) 1 ≤ 4) ∧ I (42 + 2 * k) 1 = I (42 + 2 * q) 1) := fun z => bi_0.mp h50 z.1
        refine zBipush d_X11_shift_66 (v := -12) bc_m12 (q := 68) rfl ?_
        refine zIret d_X11_shift_68 rfl rfl rfl ?_
        exact ⟨_, rfl, Or.inr (Or.inl ⟨c1, c2, rfl, rfl⟩)⟩
      · refine zAload d_X11_shift_53 rfl (q := 55) rfl ?_
        refine zGetI d_X11_shift_55 ff_X11_346 hh.1 (Nat.lt_of_succ_lt hh.2.2.1) (q := 58) rfl ?_
        refine zAload d_X11_shift_58 rfl (q := 60) rfl ?_
        refine zGetI d_X11_shift_60 ff_X11_346 hh2.1 (Nat.lt_of_succ_lt hh2.2.2.1) (q := 63) rfl ?_
        refine zIcmp_eq d_X11_shift_63 (tgt := 69) (q := 66) (by decide) rfl (fun h63 => ?_) (fun h63 => ?_)
        · have c2 : (0 ≤ I (42 + 2 * k) 1 ∧ I (42 + 2 * k) 1 ≤ 4) ∧ I (42 + 2 * k) 1 = I (42 + 2 * q) 1 := And.intro (bi_n0.mp h50) (by simpa using h63)
          refine zIload d_X11_shift_69 rfl (q := 71) rfl ?_
          refine zIf_lt d_X11_shift_71 (tgt := 97) (q := 74) (by decide) rfl (fun h71 => ?_) (fun h71 => ?_)
          · have c3 : ¬ (0 ≤ n ∧ zRunIn i0 n (nI m1) ∧ zRunIn j0 n (nI m2)) := fun z => Int32.not_lt.mpr z.1 h71
            refine zBipush d_X11_shift_97 (v := -13) bc_m13 (q := 99) rfl ?_
            refine zIret d_X11_shift_99 rfl rfl rfl ?_
            exact ⟨_, rfl, Or.inr (Or.inr (Or.inl ⟨c1, c2, c3, rfl, rfl⟩))⟩
          · refine zAload d_X11_shift_74 rfl (q := 76) rfl ?_
            refine zIloadN d_X11_shift_76 rfl rfl (q := 77) rfl ?_
            refine zIload d_X11_shift_77 rfl (q := 79) rfl ?_
            refine zCallVP d_X11_shift_79 ml_X11_349 k_X8_hasRun ki_X8_hasRun ks_X8_hasRun (sp_X8_hasRun (d := d - 1) (by omega) hh) rfl rfl hh.1 (by decide) rfl (Nat.lt_of_succ_lt hh.2.2.1) (Nat.le_of_ble_eq_true rfl) (by decide) (by omega) zns100 (q := 82) rfl ?_
            refine zIf_eq d_X11_shift_82 (tgt := 97) (q := 85) (by decide) rfl (fun h82 => ?_) (fun h82 => ?_)
            · have c3 : ¬ (0 ≤ n ∧ zRunIn i0 n (nI m1) ∧ zRunIn j0 n (nI m2)) := fun z => bi_0.mp h82 (by rw [hm1]; exact z.2.1)
              refine zBipush d_X11_shift_97 (v := -13) bc_m13 (q := 99) rfl ?_
              refine zIret d_X11_shift_99 rfl rfl rfl ?_
              exact ⟨_, rfl, Or.inr (Or.inr (Or.inl ⟨c1, c2, c3, rfl, rfl⟩))⟩
            · refine zAload d_X11_shift_85 rfl (q := 87) rfl ?_
              refine zIload d_X11_shift_87 rfl (q := 89) rfl ?_
              refine zIload d_X11_shift_89 rfl (q := 91) rfl ?_
              refine zCallVP d_X11_shift_91 ml_X11_349 k_X8_hasRun ki_X8_hasRun ks_X8_hasRun (sp_X8_hasRun (d := d - 1) (by omega) hh2) rfl rfl hh2.1 (by decide) rfl (Nat.lt_of_succ_lt hh2.2.2.1) (Nat.le_of_ble_eq_true rfl) (by decide) (by omega) zns100 (q := 94) rfl ?_
              refine zIf_ne d_X11_shift_94 (tgt := 100) (q := 97) (by decide) rfl (fun h94 => ?_) (fun h94 => ?_)
              · have c3 : 0 ≤ n ∧ zRunIn i0 n (nI m1) ∧ zRunIn j0 n (nI m2) := And.intro (Int32.not_lt.mp h71) (And.intro (by have := bi_n0.mp h82; rw [hm1] at this; exact this) (by have := bi_n0.mp h94; rw [hm2] at this; exact this))
                obtain ⟨a, c, e1, e2, e3⟩ := zRunIn_of h60 c3.1 c3.2.1
                obtain ⟨b, c', e4, e5, e6⟩ := zRunIn_of h62 c3.1 c3.2.2
                have ec : c = c' := by have h7 : nI c = nI c' := e2.symm.trans e5; exact (nI_eq (by omega) (by omega)).mp h7
                subst ec
                refine zAload d_X11_shift_100 rfl (q := 102) rfl ?_
                refine zGetR d_X11_shift_102 ff_X11_342 hh.1 (Nat.lt_of_succ_lt hh.2.2.1) (hh.2.2.2 _) (q := 105) rfl ?_
                refine zIloadN d_X11_shift_105 rfl rfl (q := 106) rfl ?_
                refine zAload d_X11_shift_106 rfl (q := 108) rfl ?_
                refine zGetR d_X11_shift_108 ff_X11_342 hh2.1 (Nat.lt_of_succ_lt hh2.2.2.1) (hh2.2.2.2 _) (q := 111) rfl ?_
                refine zIload d_X11_shift_111 rfl (q := 113) rfl ?_
                refine zIload d_X11_shift_113 rfl (q := 115) rfl ?_
                refine zCopyL (i := a) (j := b) (k := c) d_X11_shift_115 ml_X11_352 hh.2.1 hh.2.2.1 hh2.2.1 hh2.2.2.1 e1 e4 e2 (by omega) (by omega) (by omega) (by decide) (q := 118) rfl ?_
                refine zIload d_X11_shift_118 rfl (q := 120) rfl ?_
                refine zIret d_X11_shift_120 rfl rfl rfl ?_
                exact ⟨_, rfl, Or.inr (Or.inr (Or.inr ⟨c1, c2, c3, rfl, by rw [← e43, ← e44, show i0.toNatClampNeg = a by rw [e1]; exact zcl_n (by omega), show j0.toNatClampNeg = b by rw [e4]; exact zcl_n (by omega), show n.toNatClampNeg = c by rw [e2]; exact zcl_n (by omega)]⟩))⟩
              · have c3 : ¬ (0 ≤ n ∧ zRunIn i0 n (nI m1) ∧ zRunIn j0 n (nI m2)) := fun z => bi_0.mp (by simpa using h94) (by rw [hm2]; exact z.2.2)
                refine zBipush d_X11_shift_97 (v := -13) bc_m13 (q := 99) rfl ?_
                refine zIret d_X11_shift_99 rfl rfl rfl ?_
                exact ⟨_, rfl, Or.inr (Or.inr (Or.inl ⟨c1, c2, c3, rfl, rfl⟩))⟩
        · have c2 : ¬ ((0 ≤ I (42 + 2 * k) 1 ∧ I (42 + 2 * k) 1 ≤ 4) ∧ I (42 + 2 * k) 1 = I (42 + 2 * q) 1) := fun z => h63 z.2
          refine zBipush d_X11_shift_66 (v := -12) bc_m12 (q := 68) rfl ?_
          refine zIret d_X11_shift_68 rfl rfl rfl ?_
          exact ⟨_, rfl, Or.inr (Or.inl ⟨c1, c2, rfl, rfl⟩)⟩
    · have c1 : I (42 + 2 * k) 1 = -1 ∨ I (42 + 2 * q) 1 = -1 := Or.inr (bi_n0.mp h39)
      refine zBipush d_X11_shift_42 (v := -11) bc_m11 (q := 44) rfl ?_
      refine zIret d_X11_shift_44 rfl rfl rfl ?_
      exact ⟨_, rfl, Or.inl ⟨c1, rfl, rfl⟩⟩
theorem sp_X11_drawn0 {z i n star : Int32} (hd : 2 ≤ d) (hi : ¬ (0 ≤ i ∧ i < 6)) : zPure g l d m_X11_drawn [.ref 0, .int z, .int i, .int n, .int star] I L fs (.int (-1)) := by
  refine zSp_of (lv := [(0, .ref 0), (1, .int z), (2, .int i), (3, .int n), (4, .int star)]) k_X11_drawn rfl (Nat.le_of_ble_eq_true rfl) ?_
  refine zAloadN d_X11_drawn_0 rfl rfl (q := 1) rfl ?_
  refine zIloadN d_X11_drawn_1 rfl rfl (q := 2) rfl ?_
  refine zCallVP d_X11_drawn_2 ml_X11_95 k_X11_shelfAt ki_X11_shelfAt ks_X11_shelfAt (sp_shelf0 (d := d - 1) (by omega) hi) rfl rfl sh_0 (by decide) rfl (by decide) (Nat.le_of_ble_eq_true rfl) (by decide) (by omega) zns100 (q := 5) rfl ?_
  refine zAstore0 d_X11_drawn_5 (by decide) rfl (q := 7) rfl ?_
  refine zAload0 d_X11_drawn_7 rfl (q := 9) rfl ?_
  refine zIfnull0 d_X11_drawn_9 (q := 23) (by decide) ?_
  refine zIconst d_X11_drawn_23 (v := -1) ic_m1 (q := 24) rfl ?_
  refine zIret d_X11_drawn_24 rfl rfl rfl ?_
  exact zPi rfl
theorem sp_X11_drawn {k m : Nat} {z n star : Int32} (hd : 7 ≤ d) (hK : zSky I ns nt nh) (hk : k < 6) (hm : I (42 + 2 * k) 2 = nI m) (hm2 : m ≤ 60) (hh : h = 54 ∨ h = 59) {pg : Option (List zLine)} (hlw : zLawOk I h pg) : zSp g l d 100 m_X11_drawn [.ref 0, .int z, .int (nI k), .int n, .int star] (zU I L (h, h2, o)) (zX (fun x w =>
    (¬ ((1 ≤ n ∧ n ≤ 30) ∧ (star = -1 ∨ 0 ≤ star ∧ star < nI ns)) ∧ x = -1 ∧ w = zU I L (h, h2, o)) ∨ (((1 ≤ n ∧ n ≤ 30) ∧ (star = -1 ∨ 0 ≤ star ∧ star < nI ns)) ∧ ¬ I (42 + 2 * k) 1 = 0 ∧ x = (if I (42 + 2 * k) 1 = -1 then -11 else -12) ∧ w = zU I L (h, h2, o)) ∨
    (((1 ≤ n ∧ n ≤ 30) ∧ (star = -1 ∨ 0 ≤ star ∧ star < nI ns)) ∧ I (42 + 2 * k) 1 = 0 ∧ x = (zfor (fun _ s => zDrS I ns nh (zPw I L (42 + 2 * k)) (zPod I L ns (42 + 2 * k) pg) (zPn I L ns nt nh (42 + 2 * k)) star s) n.toNatClampNeg 0 (0, z)).1 ∧ ∃ J, w = zU J L (h, h2, o) ∧ ∀ a, ¬ (24 ≤ a ∧ a ≤ 28) → a ≠ h + 3 → a ≠ h + 4 → J a = I a))) := by
  have hsh := zshf hk
  have e0 : zHold ns nt nh 0 = ns := rfl
  obtain ⟨N, hN⟩ : ∃ N, N = zPn I L ns nt nh (42 + 2 * k) := ⟨_, rfl⟩
  have hn10 : N ≤ 10 := by rw [hN]; exact (zrun_spec (zPok I L ns nt nh (42 + 2 * k)) 10 0 (Nat.zero_le _)).2.1
  rw [← hN]
  have loop : ((1 ≤ n ∧ n ≤ 30) ∧ (star = -1 ∨ 0 ≤ star ∧ star < nI ns)) → I (42 + 2 * k) 1 = 0 → ∀ c, n = nI c → c ≤ 30 → ∀ i, i ≤ c → ∀ J (s : Int32 × Int32), (∀ a, ¬ (24 ≤ a ∧ a ≤ 28) → a ≠ h + 3 → a ≠ h + 4 → J a = I a) → J 24 4 = nI N → J 24 6 = s.2 → (∀ i, i < N → J 25 i = zPw I L (42 + 2 * k) i) → (∀ i, i < N → J 27 i = zPod I L ns (42 + 2 * k) pg i) →
      zfor (fun _ s => zDrS I ns nh (zPw I L (42 + 2 * k)) (zPod I L ns (42 + 2 * k) pg) N star s) c i s = zfor (fun _ s => zDrS I ns nh (zPw I L (42 + 2 * k)) (zPod I L ns (42 + 2 * k) pg) N star s) c 0 (0, z) →
      zA g l d m_X11_drawn J L (h, h2, o) 91 [(7, .int (nI i)), (6, .int s.1), (0, .ref 0), (3, .int n), (4, .int star)] (zX (fun x w =>
    (¬ ((1 ≤ n ∧ n ≤ 30) ∧ (star = -1 ∨ 0 ≤ star ∧ star < nI ns)) ∧ x = -1 ∧ w = zU I L (h, h2, o)) ∨ (((1 ≤ n ∧ n ≤ 30) ∧ (star = -1 ∨ 0 ≤ star ∧ star < nI ns)) ∧ ¬ I (42 + 2 * k) 1 = 0 ∧ x = (if I (42 + 2 * k) 1 = -1 then -11 else -12) ∧ w = zU I L (h, h2, o)) ∨
    (((1 ≤ n ∧ n ≤ 30) ∧ (star = -1 ∨ 0 ≤ star ∧ star < nI ns)) ∧ I (42 + 2 * k) 1 = 0 ∧ x = (zfor (fun _ s => zDrS I ns nh (zPw I L (42 + 2 * k)) (zPod I L ns (42 + 2 * k) pg) N star s) n.toNatClampNeg 0 (0, z)).1 ∧ ∃ J, w = zU J L (h, h2, o) ∧ ∀ a, ¬ (24 ≤ a ∧ a ≤ 28) → a ≠ h + 3 → a ≠ h + 4 → J a = I a))) := by
    intro hg hby c hc hc30
    subst hc
    have ecl : (nI c).toNatClampNeg = c := zcl_n (by omega)
    refine zloop c (fun i hi ih J s hJ h4 h6 h25 h27 hx => ?_)
    have hK1 : zSky J ns nt nh := zSky_of (hJ 1 (by omega) (by omega) (by omega)) hK
    have e7 : J 7 = I 7 := hJ 7 (by omega) (by omega) (by omega)
    have e11 : J 11 = I 11 := hJ 11 (by omega) (by omega) (by omega)
    have eN := zPw_S (I := I) (L := L) (r := 42 + 2 * k) (n := N) h25 h27 (zbits (I 7) ns, s.2)
    have eS : ∀ up, zSteer J nh up = zSteer I nh up := fun up => by unfold zSteer; rw [e11]
    refine zIload d_X11_drawn_91 rfl (q := 93) rfl ?_
    refine zIloadN d_X11_drawn_93 rfl rfl (q := 94) rfl ?_
    refine zIcmp_ge d_X11_drawn_94 (tgt := 153) (q := 97) (by decide) rfl (fun h94 => ?_) (fun h94 => ?_)
    · have e := nle h94
      rw [zfor_end e] at hx
      refine zIload d_X11_drawn_153 rfl (q := 155) rfl ?_
      refine zIret d_X11_drawn_155 rfl rfl rfl ?_
      exact ⟨_, rfl, Or.inr (Or.inr ⟨hg, hby, by rw [ecl, ← hx], J, rfl, hJ⟩)⟩
    · have hlt := nnle h94
      rw [zfor_step hlt] at hx
      refine zAloadN d_X11_drawn_97 rfl rfl (q := 98) rfl ?_
      refine zGetR d_X11_drawn_98 ff_X11_42 sh_0 (by decide) r_0_4 (q := 101) rfl ?_
      refine zAloadN d_X11_drawn_101 rfl rfl (q := 102) rfl ?_
      refine zGetR d_X11_drawn_102 ff_X11_10 sh_0 (by decide) r_0_0 (q := 105) rfl ?_
      refine zIconst d_X11_drawn_105 (v := 4) ic_4 (q := 106) rfl ?_
      refine zCallVP d_X11_drawn_106 ml_X11_228 k_X9_bits ki_X9_bits ks_X9_bits (sp_X9_bits4 (d := d - 1) (by omega) hK1) rfl rfl sh_1 (by decide) rfl (by decide) (Nat.le_of_ble_eq_true rfl) (by decide) (by omega) zns100 (q := 109) rfl ?_
      refine zCallVX d_X11_drawn_109 ml_X11_275 k_X7_nightFrom ki_X7_nightFrom ks_X7_nightFrom (sp_X7_nightFrom (d := d - 1) (by omega) h4 hn10) rfl rfl sh_24 (by decide) rfl (by decide) (Nat.le_of_ble_eq_true rfl) (by decide) (by omega) zns100 (q := 112) rfl (fun x w' hw' => ?_)
      obtain ⟨hxn, rfl⟩ := hw'
      rw [h6, e7, eN] at hxn
      rw [h6, e7, eN]
      refine zIstore d_X11_drawn_112 (by decide) rfl (q := 114) rfl ?_
      refine zIload d_X11_drawn_114 rfl (q := 116) rfl ?_
      refine zIload d_X11_drawn_116 rfl (q := 118) rfl ?_
      refine zIconst d_X11_drawn_118 (v := -1) ic_m1 (q := 119) rfl ?_
      refine zIcmp_ne d_X11_drawn_119 (tgt := 137) (q := 122) (by decide) rfl (fun h119 => ?_) (fun h119 => ?_)
      · have hs1 : ¬ star = -1 := h119
        have ed : zDrS I ns nh (zPw I L (42 + 2 * k)) (zPod I L ns (42 + 2 * k) pg) N star s = (s.1 + ((x >>> (star &&& 31)) &&& 1), (zNt (zPw I L (42 + 2 * k)) (zPod I L ns (42 + 2 * k) pg) N (zbits (I 7) ns, s.2)).2) := by unfold zDrS; rw [if_neg hs1, ← hxn]
        refine zIload d_X11_drawn_137 rfl (q := 139) rfl ?_
        refine zIload d_X11_drawn_139 rfl (q := 141) rfl ?_
        refine zIshr d_X11_drawn_141 (q := 142) rfl ?_
        refine zIconst d_X11_drawn_142 (v := 1) ic_1 (q := 143) rfl ?_
        refine zIand d_X11_drawn_143 (q := 144) rfl ?_
        refine zIadd d_X11_drawn_144 (q := 145) rfl ?_
        refine zIstore d_X11_drawn_145 (by decide) rfl (q := 147) rfl ?_
        refine zIinc d_X11_drawn_147 rfl (zinc _) (by decide) rfl (q := 150) rfl ?_
        refine zGoto d_X11_drawn_150 (q := 91) (by decide) ?_
        refine zSub [0, 1, 3, 4, 5] rfl ?_
        rw [ed] at hx
        exact ih hlt _ (_, _) (fun a q1 q2 q3 => by rw [zup_ne (by omega)]; exact hJ a q1 q2 q3) h4 rfl h25 h27 hx
      · have hs1 : star = -1 := by simpa using h119
        have ed : zDrS I ns nh (zPw I L (42 + 2 * k)) (zPod I L ns (42 + 2 * k) pg) N star s = (s.1 + zbc (zSteer I nh x), (zNt (zPw I L (42 + 2 * k)) (zPod I L ns (42 + 2 * k) pg) N (zbits (I 7) ns, s.2)).2) := by unfold zDrS; rw [if_pos hs1, ← hxn]
        refine zAloadN d_X11_drawn_122 rfl rfl (q := 123) rfl ?_
        refine zGetR d_X11_drawn_123 ff_X11_21 sh_0 (by decide) r_0_1 (q := 126) rfl ?_
        refine zIload d_X11_drawn_126 rfl (q := 128) rfl ?_
        refine zCallVP d_X11_drawn_128 ml_X11_231 k_X4_steering ki_X4_steering ks_X4_steering (sp_X4_steering (d := d - 1) (by omega) (zSky_up (a := 24) hK1 (by decide))) rfl rfl sh_16 (by decide) rfl (by decide) (Nat.le_of_ble_eq_true rfl) (by decide) (by omega) zns100 (q := 131) rfl ?_
        refine zCallSP d_X11_drawn_131 ml_X11_195 k_J6_bitCount kt_J6_bitCount (sp_J6_bitCount (d := d - 1) (by omega) ) rfl rfl (Nat.le_of_ble_eq_true rfl) (by decide) (by omega) zns100 (q := 134) rfl ?_
        rw [show zSteer (zup J 24 (zup (J 24) 6 (zNt (zPw I L (42 + 2 * k)) (zPod I L ns (42 + 2 * k) pg) N (zbits (I 7) ns, s.2)).2)) nh x = zSteer I nh x from eS x]
        refine zGoto d_X11_drawn_134 (q := 144) (by decide) ?_
        refine zIadd d_X11_drawn_144 (q := 145) rfl ?_
        refine zIstore d_X11_drawn_145 (by decide) rfl (q := 147) rfl ?_
        refine zIinc d_X11_drawn_147 rfl (zinc _) (by decide) rfl (q := 150) rfl ?_
        refine zGoto d_X11_drawn_150 (q := 91) (by decide) ?_
        refine zSub [0, 1, 3, 4, 5] rfl ?_
        rw [ed] at hx
        exact ih hlt _ (_, _) (fun a q1 q2 q3 => by rw [zup_ne (by omega)]; exact hJ a q1 q2 q3) h4 rfl h25 h27 hx
  refine zSp_of (lv := [(0, .ref 0), (1, .int z), (2, .int (nI k)), (3, .int n), (4, .int star)]) k_X11_drawn rfl (Nat.le_of_ble_eq_true rfl) ?_
  refine zAloadN d_X11_drawn_0 rfl rfl (q := 1) rfl ?_
  refine zIloadN d_X11_drawn_1 rfl rfl (q := 2) rfl ?_
  refine zCallVP d_X11_drawn_2 ml_X11_95 k_X11_shelfAt ki_X11_shelfAt ks_X11_shelfAt (sp_shelf (d := d - 1) (by omega) hk) rfl rfl sh_0 (by decide) rfl (by decide) (Nat.le_of_ble_eq_true rfl) (by decide) (by omega) zns100 (q := 5) rfl ?_
  refine zAstore d_X11_drawn_5 (by decide) rfl (q := 7) rfl ?_
  refine zAload d_X11_drawn_7 rfl (q := 9) rfl ?_
  refine zIfnull d_X11_drawn_9 (q := 12) rfl ?_
  refine zIloadN d_X11_drawn_12 rfl rfl (q := 13) rfl ?_
  refine zIconst d_X11_drawn_13 (v := 1) ic_1 (q := 14) rfl ?_
  refine zIcmp_lt d_X11_drawn_14 (tgt := 23) (q := 17) (by decide) rfl (fun h14 => ?_) (fun h14 => ?_)
  · have c1 : ¬ ((1 ≤ n ∧ n ≤ 30) ∧ (star = -1 ∨ 0 ≤ star ∧ star < nI ns)) := fun q => Int32.not_lt.mpr q.1.1 h14
    refine zIconst d_X11_drawn_23 (v := -1) ic_m1 (q := 24) rfl ?_
    refine zIret d_X11_drawn_24 rfl rfl rfl ?_
    exact ⟨_, rfl, Or.inl ⟨c1, rfl, rfl⟩⟩
  · refine zIloadN d_X11_drawn_17 rfl rfl (q := 18) rfl ?_
    refine zBipush d_X11_drawn_18 (v := 30) bc_30 (q := 20) rfl ?_
    refine zIcmp_le d_X11_drawn_20 (tgt := 25) (q := 23) (by decide) rfl (fun h20 => ?_) (fun h20 => ?_)
    · refine zIload d_X11_drawn_25 rfl (q := 27) rfl ?_
      refine zIconst d_X11_drawn_27 (v := -1) ic_m1 (q := 28) rfl ?_
      refine zIcmp_eq d_X11_drawn_28 (tgt := 46) (q := 31) (by decide) rfl (fun h28 => ?_) (fun h28 => ?_)
      · have c2 : star = -1 ∨ 0 ≤ star ∧ star < nI ns := Or.inl h28
        refine zAload d_X11_drawn_46 rfl (q := 48) rfl ?_
        refine zCallVP d_X11_drawn_48 ml_X11_103 k_X8_isBytes ki_X8_isBytes ks_X8_isBytes (sp_X8_isBytes (d := d - 1) (by omega) hsh) rfl rfl hsh.1 (by decide) rfl (Nat.lt_of_succ_lt hsh.2.2.1) (Nat.le_of_ble_eq_true rfl) (by decide) (by omega) zns100 (q := 51) rfl ?_
        refine zIf_ne d_X11_drawn_51 (tgt := 60) (q := 54) (by decide) rfl (fun h51 => ?_) (fun h51 => ?_)
        · have hb : I (42 + 2 * k) 1 = 0 := bi_n0.mp h51
          refine zAloadN d_X11_drawn_60 rfl rfl (q := 61) rfl ?_
          refine zGetR d_X11_drawn_61 ff_X11_42 sh_0 (by decide) r_0_4 (q := 64) rfl ?_
          refine zAload d_X11_drawn_64 rfl (q := 66) rfl ?_
          refine zAloadN d_X11_drawn_66 rfl rfl (q := 67) rfl ?_
          refine zGetR d_X11_drawn_67 ff_X11_10 sh_0 (by decide) r_0_0 (q := 70) rfl ?_
          refine zAloadN d_X11_drawn_70 rfl rfl (q := 71) rfl ?_
          refine zGetR d_X11_drawn_71 ff_X11_84 sh_0 (by decide) rfl (q := 74) rfl ?_
          refine zCallVV d_X11_drawn_74 ml_X11_163 k_X7_read ki_X7_read ks_X7_read (sp_X7_read (d := d - 1) (by omega) hK hsh (by omega) (by omega) hm hm2 hh hlw) rfl rfl sh_24 (by decide) rfl (by decide) (Nat.le_of_ble_eq_true rfl) (by decide) (by omega) zns100 (q := 77) rfl (fun w' hw' => ?_)
          obtain ⟨J, rfl, hJ⟩ := hw'
          rw [← hN] at hJ
          obtain ⟨hJo, ⟨hJ4, hJ5, hJ6⟩, hJf, hJi⟩ := hJ
          obtain ⟨c, hc, ec⟩ := zn1 (x := n) (n := 31) (by omega) (by have := Int32.not_lt.mp h14; grind) (by show n < 31; grind)
          refine zAloadN d_X11_drawn_77 rfl rfl (q := 78) rfl ?_
          refine zGetR d_X11_drawn_78 ff_X11_42 sh_0 (by decide) r_0_4 (q := 81) rfl ?_
          refine zIloadN d_X11_drawn_81 rfl rfl (q := 82) rfl ?_
          refine zPutI d_X11_drawn_82 ff_X11_272 rfl rfl rfl sh_24 (by decide) (q := 85) rfl ?_
          refine zIconst d_X11_drawn_85 (v := 0) ic_0 (q := 86) rfl ?_
          refine zIstore d_X11_drawn_86 (by decide) rfl (q := 88) rfl ?_
          refine zIconst d_X11_drawn_88 (v := 0) ic_0 (q := 89) rfl ?_
          refine zIstore d_X11_drawn_89 (by decide) rfl (q := 91) rfl ?_
          refine zSub [0, 1, 3, 6, 7] rfl ?_
          exact loop (And.intro (And.intro (Int32.not_lt.mp h14) h20) c2) hb c ec (by omega) 0 (Nat.zero_le _) _ (0, z) (fun a q1 q2 q3 => by rw [zup_ne (by omega)]; exact hJo a q1 q2 q3) hJ4 rfl (fun i hi => (hJi i hi).1) (fun i hi => (hJi i hi).2.2) rfl
        · have hb : ¬ I (42 + 2 * k) 1 = 0 := bi_0.mp (by simpa using h51)
          refine zAload d_X11_drawn_54 rfl (q := 56) rfl ?_
          refine zCallVP d_X11_drawn_56 ml_X11_159 k_X8_refusal ki_X8_refusal ks_X8_refusal (sp_X8_refusal (d := d - 1) (by omega) hsh) rfl rfl hsh.1 (by decide) rfl (Nat.lt_of_succ_lt hsh.2.2.1) (Nat.le_of_ble_eq_true rfl) (by decide) (by omega) zns100 (q := 59) rfl ?_
          refine zIret d_X11_drawn_59 rfl rfl rfl ?_
          exact ⟨_, rfl, Or.inr (Or.inl ⟨And.intro (And.intro (Int32.not_lt.mp h14) h20) c2, hb, rfl, rfl⟩)⟩
      · refine zAloadN d_X11_drawn_31 rfl rfl (q := 32) rfl ?_
        refine zGetR d_X11_drawn_32 ff_X11_10 sh_0 (by decide) r_0_0 (q := 35) rfl ?_
        refine zIconst d_X11_drawn_35 (v := 0) ic_0 (q := 36) rfl ?_
        refine zIload d_X11_drawn_36 rfl (q := 38) rfl ?_
        refine zCallVP d_X11_drawn_38 ml_X11_117 k_X9_has ki_X9_has ks_X9_has (sp_X9_has (d := d - 1) (by omega) hK) rfl rfl sh_1 (by decide) rfl (by decide) (Nat.le_of_ble_eq_true rfl) (by decide) (by omega) zns100 (q := 41) rfl ?_
        refine zIf_ne d_X11_drawn_41 (tgt := 46) (q := 44) (by decide) rfl (fun h41 => ?_) (fun h41 => ?_)
        · have c2 : star = -1 ∨ 0 ≤ star ∧ star < nI ns := Or.inr (bi_n0.mp h41)
          refine zAload d_X11_drawn_46 rfl (q := 48) rfl ?_
          refine zCallVP d_X11_drawn_48 ml_X11_103 k_X8_isBytes ki_X8_isBytes ks_X8_isBytes (sp_X8_isBytes (d := d - 1) (by omega) hsh) rfl rfl hsh.1 (by decide) rfl (Nat.lt_of_succ_lt hsh.2.2.1) (Nat.le_of_ble_eq_true rfl) (by decide) (by omega) zns100 (q := 51) rfl ?_
          refine zIf_ne d_X11_drawn_51 (tgt := 60) (q := 54) (by decide) rfl (fun h51 => ?_) (fun h51 => ?_)
          · have hb : I (42 + 2 * k) 1 = 0 := bi_n0.mp h51
            refine zAloadN d_X11_drawn_60 rfl rfl (q := 61) rfl ?_
            refine zGetR d_X11_drawn_61 ff_X11_42 sh_0 (by decide) r_0_4 (q := 64) rfl ?_
            refine zAload d_X11_drawn_64 rfl (q := 66) rfl ?_
            refine zAloadN d_X11_drawn_66 rfl rfl (q := 67) rfl ?_
            refine zGetR d_X11_drawn_67 ff_X11_10 sh_0 (by decide) r_0_0 (q := 70) rfl ?_
            refine zAloadN d_X11_drawn_70 rfl rfl (q := 71) rfl ?_
            refine zGetR d_X11_drawn_71 ff_X11_84 sh_0 (by decide) rfl (q := 74) rfl ?_
            refine zCallVV d_X11_drawn_74 ml_X11_163 k_X7_read ki_X7_read ks_X7_read (sp_X7_read (d := d - 1) (by omega) hK hsh (by omega) (by omega) hm hm2 hh hlw) rfl rfl sh_24 (by decide) rfl (by decide) (Nat.le_of_ble_eq_true rfl) (by decide) (by omega) zns100 (q := 77) rfl (fun w' hw' => ?_)
            obtain ⟨J, rfl, hJ⟩ := hw'
            rw [← hN] at hJ
            obtain ⟨hJo, ⟨hJ4, hJ5, hJ6⟩, hJf, hJi⟩ := hJ
            obtain ⟨c, hc, ec⟩ := zn1 (x := n) (n := 31) (by omega) (by have := Int32.not_lt.mp h14; grind) (by show n < 31; grind)
            refine zAloadN d_X11_drawn_77 rfl rfl (q := 78) rfl ?_
            refine zGetR d_X11_drawn_78 ff_X11_42 sh_0 (by decide) r_0_4 (q := 81) rfl ?_
            refine zIloadN d_X11_drawn_81 rfl rfl (q := 82) rfl ?_
            refine zPutI d_X11_drawn_82 ff_X11_272 rfl rfl rfl sh_24 (by decide) (q := 85) rfl ?_
            refine zIconst d_X11_drawn_85 (v := 0) ic_0 (q := 86) rfl ?_
            refine zIstore d_X11_drawn_86 (by decide) rfl (q := 88) rfl ?_
            refine zIconst d_X11_drawn_88 (v := 0) ic_0 (q := 89) rfl ?_
            refine zIstore d_X11_drawn_89 (by decide) rfl (q := 91) rfl ?_
            refine zSub [0, 1, 3, 6, 7] rfl ?_
            exact loop (And.intro (And.intro (Int32.not_lt.mp h14) h20) c2) hb c ec (by omega) 0 (Nat.zero_le _) _ (0, z) (fun a q1 q2 q3 => by rw [zup_ne (by omega)]; exact hJo a q1 q2 q3) hJ4 rfl (fun i hi => (hJi i hi).1) (fun i hi => (hJi i hi).2.2) rfl
          · have hb : ¬ I (42 + 2 * k) 1 = 0 := bi_0.mp (by simpa using h51)
            refine zAload d_X11_drawn_54 rfl (q := 56) rfl ?_
            refine zCallVP d_X11_drawn_56 ml_X11_159 k_X8_refusal ki_X8_refusal ks_X8_refusal (sp_X8_refusal (d := d - 1) (by omega) hsh) rfl rfl hsh.1 (by decide) rfl (Nat.lt_of_succ_lt hsh.2.2.1) (Nat.le_of_ble_eq_true rfl) (by decide) (by omega) zns100 (q := 59) rfl ?_
            refine zIret d_X11_drawn_59 rfl rfl rfl ?_
            exact ⟨_, rfl, Or.inr (Or.inl ⟨And.intro (And.intro (Int32.not_lt.mp h14) h20) c2, hb, rfl, rfl⟩)⟩
        · have c1 : ¬ ((1 ≤ n ∧ n ≤ 30) ∧ (star = -1 ∨ 0 ≤ star ∧ star < nI ns)) := fun q => q.2.elim (fun e => h28 e) (fun e => bi_0.mp h41 e)
          refine zIconst d_X11_drawn_44 (v := -1) ic_m1 (q := 45) rfl ?_
          refine zIret d_X11_drawn_45 rfl rfl rfl ?_
          exact ⟨_, rfl, Or.inl ⟨c1, rfl, rfl⟩⟩
    · have c1 : ¬ ((1 ≤ n ∧ n ≤ 30) ∧ (star = -1 ∨ 0 ≤ star ∧ star < nI ns)) := fun q => h20 q.1.2
      refine zIconst d_X11_drawn_23 (v := -1) ic_m1 (q := 24) rfl ?_
      refine zIret d_X11_drawn_24 rfl rfl rfl ?_
      exact ⟨_, rfl, Or.inl ⟨c1, rfl, rfl⟩⟩
end S37

