theorem d_X12_shift_0 : decode (zmc m_X12_shift) 0 = .ok (.iload_n 1, 1) := by decide +kernel
theorem d_X12_shift_1 : decode (zmc m_X12_shift) 1 = .ok (.invokestatic 152, 3) := by decide +kernel
theorem d_X12_shift_4 : decode (zmc m_X12_shift) 4 = .ok (.ifCond .eq 10, 3) := by decide +kernel
theorem d_X12_shift_7 : decode (zmc m_X12_shift) 7 = .ok (.iload_n 3, 1) := by decide +kernel
theorem d_X12_shift_8 : decode (zmc m_X12_shift) 8 = .ok (.invokestatic 152, 3) := by decide +kernel
theorem d_X12_shift_11 : decode (zmc m_X12_shift) 11 = .ok (.ifCond .ne 5, 3) := by decide +kernel
theorem d_X12_shift_14 : decode (zmc m_X12_shift) 14 = .ok (.iconst (-1), 1) := by decide +kernel
theorem d_X12_shift_15 : decode (zmc m_X12_shift) 15 = .ok (.ireturn, 1) := by decide +kernel
theorem d_X12_shift_16 : decode (zmc m_X12_shift) 16 = .ok (.aload_n 0, 1) := by decide +kernel
theorem d_X12_shift_17 : decode (zmc m_X12_shift) 17 = .ok (.getfield 107, 3) := by decide +kernel
theorem d_X12_shift_20 : decode (zmc m_X12_shift) 20 = .ok (.iload_n 1, 1) := by decide +kernel
theorem d_X12_shift_21 : decode (zmc m_X12_shift) 21 = .ok (.iaload, 1) := by decide +kernel
theorem d_X12_shift_22 : decode (zmc m_X12_shift) 22 = .ok (.iconst (-1), 1) := by decide +kernel
theorem d_X12_shift_23 : decode (zmc m_X12_shift) 23 = .ok (.if_icmp .eq 13, 3) := by decide +kernel
theorem d_X12_shift_26 : decode (zmc m_X12_shift) 26 = .ok (.aload_n 0, 1) := by decide +kernel
theorem d_X12_shift_27 : decode (zmc m_X12_shift) 27 = .ok (.getfield 107, 3) := by decide +kernel
theorem d_X12_shift_30 : decode (zmc m_X12_shift) 30 = .ok (.iload_n 3, 1) := by decide +kernel
theorem d_X12_shift_31 : decode (zmc m_X12_shift) 31 = .ok (.iaload, 1) := by decide +kernel
theorem d_X12_shift_32 : decode (zmc m_X12_shift) 32 = .ok (.iconst (-1), 1) := by decide +kernel
theorem d_X12_shift_33 : decode (zmc m_X12_shift) 33 = .ok (.if_icmp .ne 6, 3) := by decide +kernel
theorem d_X12_shift_36 : decode (zmc m_X12_shift) 36 = .ok (.bipush (-11), 2) := by decide +kernel
theorem d_X12_shift_38 : decode (zmc m_X12_shift) 38 = .ok (.ireturn, 1) := by decide +kernel
theorem d_X12_shift_39 : decode (zmc m_X12_shift) 39 = .ok (.aload_n 0, 1) := by decide +kernel
theorem d_X12_shift_40 : decode (zmc m_X12_shift) 40 = .ok (.getfield 107, 3) := by decide +kernel
theorem d_X12_shift_43 : decode (zmc m_X12_shift) 43 = .ok (.iload_n 1, 1) := by decide +kernel
theorem d_X12_shift_44 : decode (zmc m_X12_shift) 44 = .ok (.iaload, 1) := by decide +kernel
theorem d_X12_shift_45 : decode (zmc m_X12_shift) 45 = .ok (.ifCond .ge 18, 3) := by decide +kernel
theorem d_X12_shift_48 : decode (zmc m_X12_shift) 48 = .ok (.aload_n 0, 1) := by decide +kernel
theorem d_X12_shift_49 : decode (zmc m_X12_shift) 49 = .ok (.getfield 107, 3) := by decide +kernel
theorem d_X12_shift_52 : decode (zmc m_X12_shift) 52 = .ok (.iload_n 1, 1) := by decide +kernel
theorem d_X12_shift_53 : decode (zmc m_X12_shift) 53 = .ok (.iaload, 1) := by decide +kernel
theorem d_X12_shift_54 : decode (zmc m_X12_shift) 54 = .ok (.aload_n 0, 1) := by decide +kernel
theorem d_X12_shift_55 : decode (zmc m_X12_shift) 55 = .ok (.getfield 107, 3) := by decide +kernel
theorem d_X12_shift_58 : decode (zmc m_X12_shift) 58 = .ok (.iload_n 3, 1) := by decide +kernel
theorem d_X12_shift_59 : decode (zmc m_X12_shift) 59 = .ok (.iaload, 1) := by decide +kernel
theorem d_X12_shift_60 : decode (zmc m_X12_shift) 60 = .ok (.if_icmp .eq 6, 3) := by decide +kernel
theorem d_X12_shift_63 : decode (zmc m_X12_shift) 63 = .ok (.bipush (-12), 2) := by decide +kernel
theorem d_X12_shift_65 : decode (zmc m_X12_shift) 65 = .ok (.ireturn, 1) := by decide +kernel
theorem d_X12_shift_66 : decode (zmc m_X12_shift) 66 = .ok (.iload 5, 2) := by decide +kernel
theorem d_X12_shift_68 : decode (zmc m_X12_shift) 68 = .ok (.ifCond .lt 39, 3) := by decide +kernel
theorem d_X12_shift_71 : decode (zmc m_X12_shift) 71 = .ok (.iload_n 2, 1) := by decide +kernel
theorem d_X12_shift_72 : decode (zmc m_X12_shift) 72 = .ok (.ifCond .lt 35, 3) := by decide +kernel
theorem d_X12_shift_75 : decode (zmc m_X12_shift) 75 = .ok (.iload 4, 2) := by decide +kernel
theorem d_X12_shift_77 : decode (zmc m_X12_shift) 77 = .ok (.ifCond .lt 30, 3) := by decide +kernel
theorem d_X12_shift_80 : decode (zmc m_X12_shift) 80 = .ok (.iload_n 2, 1) := by decide +kernel
theorem d_X12_shift_81 : decode (zmc m_X12_shift) 81 = .ok (.aload_n 0, 1) := by decide +kernel
theorem d_X12_shift_82 : decode (zmc m_X12_shift) 82 = .ok (.getfield 110, 3) := by decide +kernel
theorem d_X12_shift_85 : decode (zmc m_X12_shift) 85 = .ok (.iload_n 1, 1) := by decide +kernel
theorem d_X12_shift_86 : decode (zmc m_X12_shift) 86 = .ok (.iaload, 1) := by decide +kernel
theorem d_X12_shift_87 : decode (zmc m_X12_shift) 87 = .ok (.iload 5, 2) := by decide +kernel
theorem d_X12_shift_89 : decode (zmc m_X12_shift) 89 = .ok (.isub, 1) := by decide +kernel
theorem d_X12_shift_90 : decode (zmc m_X12_shift) 90 = .ok (.if_icmp .gt 17, 3) := by decide +kernel
theorem d_X12_shift_93 : decode (zmc m_X12_shift) 93 = .ok (.iload 4, 2) := by decide +kernel
theorem d_X12_shift_95 : decode (zmc m_X12_shift) 95 = .ok (.aload_n 0, 1) := by decide +kernel
theorem d_X12_shift_96 : decode (zmc m_X12_shift) 96 = .ok (.getfield 110, 3) := by decide +kernel
theorem d_X12_shift_99 : decode (zmc m_X12_shift) 99 = .ok (.iload_n 3, 1) := by decide +kernel
theorem d_X12_shift_100 : decode (zmc m_X12_shift) 100 = .ok (.iaload, 1) := by decide +kernel
theorem d_X12_shift_101 : decode (zmc m_X12_shift) 101 = .ok (.iload 5, 2) := by decide +kernel
theorem d_X12_shift_103 : decode (zmc m_X12_shift) 103 = .ok (.isub, 1) := by decide +kernel
theorem d_X12_shift_104 : decode (zmc m_X12_shift) 104 = .ok (.if_icmp .le 6, 3) := by decide +kernel
theorem d_X12_shift_107 : decode (zmc m_X12_shift) 107 = .ok (.bipush (-13), 2) := by decide +kernel
theorem d_X12_shift_109 : decode (zmc m_X12_shift) 109 = .ok (.ireturn, 1) := by decide +kernel
theorem d_X12_shift_110 : decode (zmc m_X12_shift) 110 = .ok (.iconst 0, 1) := by decide +kernel
theorem d_X12_shift_111 : decode (zmc m_X12_shift) 111 = .ok (.istore 6, 2) := by decide +kernel
theorem d_X12_shift_113 : decode (zmc m_X12_shift) 113 = .ok (.iload 6, 2) := by decide +kernel
theorem d_X12_shift_115 : decode (zmc m_X12_shift) 115 = .ok (.iload 5, 2) := by decide +kernel
theorem d_X12_shift_117 : decode (zmc m_X12_shift) 117 = .ok (.if_icmp .ge 30, 3) := by decide +kernel
theorem d_X12_shift_120 : decode (zmc m_X12_shift) 120 = .ok (.aload_n 0, 1) := by decide +kernel
theorem d_X12_shift_121 : decode (zmc m_X12_shift) 121 = .ok (.getfield 117, 3) := by decide +kernel
theorem d_X12_shift_124 : decode (zmc m_X12_shift) 124 = .ok (.iload 6, 2) := by decide +kernel
theorem d_X12_shift_126 : decode (zmc m_X12_shift) 126 = .ok (.aload_n 0, 1) := by decide +kernel
theorem d_X12_shift_127 : decode (zmc m_X12_shift) 127 = .ok (.getfield 113, 3) := by decide +kernel
theorem d_X12_shift_130 : decode (zmc m_X12_shift) 130 = .ok (.bipush 60, 2) := by decide +kernel
theorem d_X12_shift_132 : decode (zmc m_X12_shift) 132 = .ok (.iload_n 1, 1) := by decide +kernel
theorem d_X12_shift_133 : decode (zmc m_X12_shift) 133 = .ok (.imul, 1) := by decide +kernel
theorem d_X12_shift_134 : decode (zmc m_X12_shift) 134 = .ok (.iload_n 2, 1) := by decide +kernel
theorem d_X12_shift_135 : decode (zmc m_X12_shift) 135 = .ok (.iadd, 1) := by decide +kernel
theorem d_X12_shift_136 : decode (zmc m_X12_shift) 136 = .ok (.iload 6, 2) := by decide +kernel
theorem d_X12_shift_138 : decode (zmc m_X12_shift) 138 = .ok (.iadd, 1) := by decide +kernel
theorem d_X12_shift_139 : decode (zmc m_X12_shift) 139 = .ok (.laload, 1) := by decide +kernel
theorem d_X12_shift_140 : decode (zmc m_X12_shift) 140 = .ok (.lastore, 1) := by decide +kernel
theorem d_X12_shift_141 : decode (zmc m_X12_shift) 141 = .ok (.iinc 6 1, 3) := by decide +kernel
theorem d_X12_shift_144 : decode (zmc m_X12_shift) 144 = .ok (.goto (-31), 3) := by decide +kernel
theorem d_X12_shift_147 : decode (zmc m_X12_shift) 147 = .ok (.iconst 0, 1) := by decide +kernel
theorem d_X12_shift_148 : decode (zmc m_X12_shift) 148 = .ok (.istore 6, 2) := by decide +kernel
theorem d_X12_shift_150 : decode (zmc m_X12_shift) 150 = .ok (.iload 6, 2) := by decide +kernel
theorem d_X12_shift_152 : decode (zmc m_X12_shift) 152 = .ok (.iload 5, 2) := by decide +kernel
theorem d_X12_shift_154 : decode (zmc m_X12_shift) 154 = .ok (.if_icmp .ge 31, 3) := by decide +kernel
theorem d_X12_shift_157 : decode (zmc m_X12_shift) 157 = .ok (.aload_n 0, 1) := by decide +kernel
theorem d_X12_shift_158 : decode (zmc m_X12_shift) 158 = .ok (.getfield 113, 3) := by decide +kernel
theorem d_X12_shift_161 : decode (zmc m_X12_shift) 161 = .ok (.bipush 60, 2) := by decide +kernel
theorem d_X12_shift_163 : decode (zmc m_X12_shift) 163 = .ok (.iload_n 3, 1) := by decide +kernel
theorem d_X12_shift_164 : decode (zmc m_X12_shift) 164 = .ok (.imul, 1) := by decide +kernel
theorem d_X12_shift_165 : decode (zmc m_X12_shift) 165 = .ok (.iload 4, 2) := by decide +kernel
theorem d_X12_shift_167 : decode (zmc m_X12_shift) 167 = .ok (.iadd, 1) := by decide +kernel
theorem d_X12_shift_168 : decode (zmc m_X12_shift) 168 = .ok (.iload 6, 2) := by decide +kernel
theorem d_X12_shift_170 : decode (zmc m_X12_shift) 170 = .ok (.iadd, 1) := by decide +kernel
theorem d_X12_shift_171 : decode (zmc m_X12_shift) 171 = .ok (.aload_n 0, 1) := by decide +kernel
theorem d_X12_shift_172 : decode (zmc m_X12_shift) 172 = .ok (.getfield 117, 3) := by decide +kernel
theorem d_X12_shift_175 : decode (zmc m_X12_shift) 175 = .ok (.iload 6, 2) := by decide +kernel
theorem d_X12_shift_177 : decode (zmc m_X12_shift) 177 = .ok (.laload, 1) := by decide +kernel
theorem d_X12_shift_178 : decode (zmc m_X12_shift) 178 = .ok (.lastore, 1) := by decide +kernel
theorem d_X12_shift_179 : decode (zmc m_X12_shift) 179 = .ok (.iinc 6 1, 3) := by decide +kernel
theorem d_X12_shift_182 : decode (zmc m_X12_shift) 182 = .ok (.goto (-32), 3) := by decide +kernel
theorem d_X12_shift_185 : decode (zmc m_X12_shift) 185 = .ok (.iload 5, 2) := by decide +kernel
theorem d_X12_shift_187 : decode (zmc m_X12_shift) 187 = .ok (.ireturn, 1) := by decide +kernel
/-! THE REFERENCE: shift -/
theorem zHc_eq {f f' : Nat → Int32} {nb : Nat} (h50 : nb ≤ 50) (h : zShB f nb) (h' : zShB f' nb) (h1 : ¬ f 1 = -1) (h2 : ¬ f' 1 = -1) :
    (¬ 0 ≤ zHc (f 1) (f 3) ∧ zHc (f 1) (f 3) = zHc (f' 1) (f' 3)) ↔ ((0 ≤ f 1 ∧ f 1 ≤ 4) ∧ f 1 = f' 1) := by
  have inj : ∀ s, s < 5 → ∀ s', s' < 5 → (-2 - nI s : Int32) = -2 - nI s' → nI s = nI s' := by decide +kernel
  rcases zHc_cases h50 h with ⟨e, -⟩ | ⟨s, hs, e, e2⟩ | ⟨e, p, hp, e3, e2⟩
  · exact absurd e h1
  · have z := zHc_row s hs
    rcases zHc_cases h50 h' with ⟨e', -⟩ | ⟨s', hs', e', e2'⟩ | ⟨e', p', hp', e3', e2'⟩
    · exact absurd e' h2
    · rw [e2, e2', e, e']
      exact ⟨fun y => ⟨z.2.2.1, inj s hs s' hs' y.2⟩, fun y => ⟨Int32.not_le.mpr z.2.2.2.2.1, by rw [y.2]⟩⟩
    · rw [e2, e2', e, e']
      have p0 := zn_ge (k := p') (by omega)
      exact ⟨fun y => absurd p0 (by rw [← y.2]; exact y.1), fun y => absurd y.2 z.2.1⟩
  · have p0 := zn_ge (k := p) (by omega)
    rw [e2, e]
    exact ⟨fun y => absurd p0 y.1, fun y => absurd y.1.2 (by decide)⟩
section S50
variable {g : zG} {l : Launch} {d : Nat} {I V : Nat → Nat → Int32} {L K : Nat → Nat → Int64} {fs : Nat × Nat × Option Nat} {ns nt nh nb : Nat} {pg : Option (List zLine)}
theorem sp_X12_shift0 {i j i0 j0 n : Int32} (hd : 3 ≤ d) (hi : ¬ (0 ≤ i ∧ i < 6) ∨ ¬ (0 ≤ j ∧ j < 6)) : zPure g l d m_X12_shift [.ref 64, .int i, .int i0, .int j, .int j0, .int n] I L fs (.int (-1)) := by
  rcases hi with hi | hi
  ·
    refine zSp_of (lv := [(0, .ref 64), (1, .int i), (2, .int i0), (3, .int j), (4, .int j0), (5, .int n)]) k_X12_shift rfl (Nat.le_of_ble_eq_true rfl) ?_
    refine zIloadN d_X12_shift_0 rfl rfl (q := 1) rfl ?_
    refine zCallSP d_X12_shift_1 ml_X12_152 k_X12_isShelf kt_X12_isShelf (sp_X12_isShelf (d := d - 1) (by omega) ) rfl rfl (Nat.le_of_ble_eq_true rfl) (by decide) (by omega) zns100 (q := 4) rfl ?_
    refine zIf_eq d_X12_shift_4 (tgt := 14) (q := 7) (by decide) rfl (fun h4 => ?_) (fun h => absurd (zshelf_out hi) h)
    refine zIconst d_X12_shift_14 (v := -1) ic_m1 (q := 15) rfl ?_
    refine zIret d_X12_shift_15 rfl rfl rfl ?_
    exact zPi rfl
  ·
    refine zSp_of (lv := [(0, .ref 64), (1, .int i), (2, .int i0), (3, .int j), (4, .int j0), (5, .int n)]) k_X12_shift rfl (Nat.le_of_ble_eq_true rfl) ?_
    refine zIloadN d_X12_shift_0 rfl rfl (q := 1) rfl ?_
    refine zCallSP d_X12_shift_1 ml_X12_152 k_X12_isShelf kt_X12_isShelf (sp_X12_isShelf (d := d - 1) (by omega) ) rfl rfl (Nat.le_of_ble_eq_true rfl) (by decide) (by omega) zns100 (q := 4) rfl ?_
    refine zIf_eq d_X12_shift_4 (tgt := 14) (q := 7) (by decide) rfl (fun h4 => ?_) (fun h4 => ?_)
    · refine zIconst d_X12_shift_14 (v := -1) ic_m1 (q := 15) rfl ?_
      refine zIret d_X12_shift_15 rfl rfl rfl ?_
      exact zPi rfl
    · refine zIloadN d_X12_shift_7 rfl rfl (q := 8) rfl ?_
      refine zCallSP d_X12_shift_8 ml_X12_152 k_X12_isShelf kt_X12_isShelf (sp_X12_isShelf (d := d - 1) (by omega) ) rfl rfl (Nat.le_of_ble_eq_true rfl) (by decide) (by omega) zns100 (q := 11) rfl ?_
      refine zIf_ne d_X12_shift_11 (tgt := 16) (q := 14) (by decide) rfl (fun h => absurd h (by rw [zshelf_out hi]; decide)) (fun h11 => ?_)
      refine zIconst d_X12_shift_14 (v := -1) ic_m1 (q := 15) rfl ?_
      refine zIret d_X12_shift_15 rfl rfl rfl ?_
      exact zPi rfl
theorem sp_X12_shift {q p m1 m2 : Nat} {i0 j0 n : Int32} (hd : 3 ≤ d) (hD : zMd I L V K pg) (hB : zBh V nb) (h50 : nb ≤ 50) (hq : q < 6) (hp : p < 6) (hm1 : V (42 + 2 * q) 2 = nI m1) (hs1 : m1 ≤ 60) (hm2 : V (42 + 2 * p) 2 = nI m2) (hs2 : m2 ≤ 60) : zSp g l d 100 m_X12_shift [.ref 64, .int (nI q), .int i0, .int (nI p), .int j0, .int n] (zU I L fs) (zX (fun x w =>
    ((V (42 + 2 * q) 1 = -1 ∨ V (42 + 2 * p) 1 = -1) ∧ x = -11 ∧ w = zU I L fs) ∨
    (¬ (V (42 + 2 * q) 1 = -1 ∨ V (42 + 2 * p) 1 = -1) ∧ ¬ ((0 ≤ V (42 + 2 * q) 1 ∧ V (42 + 2 * q) 1 ≤ 4) ∧ V (42 + 2 * q) 1 = V (42 + 2 * p) 1) ∧ x = -12 ∧ w = zU I L fs) ∨
    (¬ (V (42 + 2 * q) 1 = -1 ∨ V (42 + 2 * p) 1 = -1) ∧ ((0 ≤ V (42 + 2 * q) 1 ∧ V (42 + 2 * q) 1 ≤ 4) ∧ V (42 + 2 * q) 1 = V (42 + 2 * p) 1) ∧ ¬ (0 ≤ n ∧ zRunIn i0 n (nI m1) ∧ zRunIn j0 n (nI m2)) ∧ x = -13 ∧ w = zU I L fs) ∨
    (¬ (V (42 + 2 * q) 1 = -1 ∨ V (42 + 2 * p) 1 = -1) ∧ ((0 ≤ V (42 + 2 * q) 1 ∧ V (42 + 2 * q) 1 ≤ 4) ∧ V (42 + 2 * q) 1 = V (42 + 2 * p) 1) ∧ (0 ≤ n ∧ zRunIn i0 n (nI m1) ∧ zRunIn j0 n (nI m2)) ∧ x = n ∧
      ∃ L', w = zU I L' fs ∧ (∀ a, a < 64 → L' a = L a) ∧ zMd I L' V (zup K (43 + 2 * p) (va_cpy (K (43 + 2 * q)) (K (43 + 2 * p)) i0.toNatClampNeg j0.toNatClampNeg n.toNatClampNeg)) pg))) := by
  have hH := hD.2.2.2.2.2.1
  obtain ⟨q1, q2, q3⟩ := hH q hq
  obtain ⟨p1, p2, p3⟩ := hH p hp
  have hqe := zHc_cases h50 (hB q hq)
  have hpe := zHc_cases h50 (hB p hp)
  have em : ∀ k, k < 6 → (I 96 k = -1 ↔ V (42 + 2 * k) 1 = -1) := by
    intro k hk
    rw [(hH k hk).2.1]
    rcases zHc_cases h50 (hB k hk) with ⟨e, e2⟩ | ⟨s, hs, e, e2⟩ | ⟨e, r, hr, e3, e2⟩
    · rw [e2]; exact ⟨fun _ => e, fun _ => rfl⟩
    · rw [e2, e]; exact ⟨fun y => absurd y (zHc_row s hs).2.2.2.1, fun y => absurd y (zHc_row s hs).1⟩
    · have p0 := zn_ge (k := r) (by omega)
      rw [e2, e]; exact ⟨fun y => by rw [y] at p0; exact absurd p0 (by decide), fun y => absurd y (by decide)⟩
  have two : ∀ (Q : Option Value → zW → Prop) (a b c : Nat), a + c ≤ 60 → b + c ≤ 60 → (∀ L', (∀ x, x < 98 → L' x = L x) → (∀ i, L' 98 i = if 60 * p + b ≤ i ∧ i < 60 * p + b + c then L 98 (60 * q + a + (i - (60 * p + b))) else L 98 i) → Q (some (.int (nI c))) (zU I L' fs)) →
      ∀ k, k ≤ c → ∀ L2, (∀ x, x < 98 → L2 x = L x) → (∀ i, i < c → L2 99 i = L 98 (60 * q + a + i)) → (∀ i, L2 98 i = if 60 * p + b ≤ i ∧ i < 60 * p + b + k then L 98 (60 * q + a + (i - (60 * p + b))) else L 98 i) →
      zA g l d m_X12_shift I L2 fs 150 [(6, .int (nI k)), (0, .ref 64), (1, .int (nI q)), (2, .int (nI a)), (3, .int (nI p)), (4, .int (nI b)), (5, .int (nI c))] Q := by
    intro Q a b c hac hbc KK
    refine zloop c (fun k hk ih L2 f1 f2 f3 => ?_)
    refine zIload d_X12_shift_150 rfl (q := 152) rfl ?_
    refine zIload d_X12_shift_152 rfl (q := 154) rfl ?_
    refine zIcmp_ge d_X12_shift_154 (tgt := 185) (q := 157) (by decide) rfl (fun h154 => ?_) (fun h154 => ?_)
    · have e : k = c := by have := nle h154; omega
      subst e
      refine zIload d_X12_shift_185 rfl (q := 187) rfl ?_
      refine zIret d_X12_shift_187 rfl rfl rfl ?_
      exact KK L2 f1 f3
    · have hlt := nnle h154
      refine zAloadN d_X12_shift_157 rfl rfl (q := 158) rfl ?_
      refine zGetR d_X12_shift_158 ff_X12_113 sh_64 (by decide) r_64_55 (q := 161) rfl ?_
      refine zBipush d_X12_shift_161 (v := 60) bc_60 (q := 163) rfl ?_
      refine zIloadN d_X12_shift_163 rfl rfl (q := 164) rfl ?_
      refine zImul d_X12_shift_164 (q := 165) rfl ?_
      refine zIload d_X12_shift_165 rfl (q := 167) rfl ?_
      refine zIadd d_X12_shift_167 (q := 168) rfl ?_
      refine zIload d_X12_shift_168 rfl (q := 170) rfl ?_
      refine zIadd d_X12_shift_170 (q := 171) rfl ?_
      refine zAloadN d_X12_shift_171 rfl rfl (q := 172) rfl ?_
      refine zGetR d_X12_shift_172 ff_X12_117 sh_64 (by decide) r_64_56 (q := 175) rfl ?_
      refine zIload d_X12_shift_175 rfl (q := 177) rfl ?_
      refine zLald d_X12_shift_177 sh_99 (by decide) rfl (by omega) (q := 178) rfl ?_
      rw [f2 k hlt]
      refine zLast d_X12_shift_178 sh_98 (by decide) (show (60 : Int32) * nI p + nI b + nI k = nI (60 * p + b + k) by rw [z60, nI_add]) (by omega) (q := 179) rfl ?_
      refine zIinc d_X12_shift_179 rfl (zinc _) (by decide) rfl (q := 182) rfl ?_
      refine zGoto d_X12_shift_182 (q := 150) (by decide) ?_
      refine zSub [0, 1, 2, 3, 4, 5, 6] rfl ?_
      refine ih hlt _ (fun x hx => by rw [zup_ne (by omega)]; exact f1 x hx) (fun i hi => f2 i hi) (fun i => ?_)
      rw [zup_eq]
      by_cases e : i = 60 * p + b + k
      · subst e; rw [zup_eq, if_pos (by omega)]; congr 1; omega
      · rw [zup_ne e, f3 i]
        by_cases c1 : 60 * p + b ≤ i ∧ i < 60 * p + b + k
        · rw [if_pos c1, if_pos (by omega)]
        · rw [if_neg c1, if_neg (by omega)]
  have one : ∀ (Q : Option Value → zW → Prop) (a b c : Nat), a + c ≤ 60 → b + c ≤ 60 → (∀ L', (∀ x, x < 98 → L' x = L x) → (∀ i, L' 98 i = if 60 * p + b ≤ i ∧ i < 60 * p + b + c then L 98 (60 * q + a + (i - (60 * p + b))) else L 98 i) → Q (some (.int (nI c))) (zU I L' fs)) →
      ∀ k, k ≤ c → ∀ L1, (∀ x, x ≠ 99 → L1 x = L x) → (∀ i, i < k → L1 99 i = L 98 (60 * q + a + i)) →
      zA g l d m_X12_shift I L1 fs 113 [(6, .int (nI k)), (0, .ref 64), (1, .int (nI q)), (2, .int (nI a)), (3, .int (nI p)), (4, .int (nI b)), (5, .int (nI c))] Q := by
    intro Q a b c hac hbc KK
    refine zloop c (fun k hk ih L1 f1 f2 => ?_)
    refine zIload d_X12_shift_113 rfl (q := 115) rfl ?_
    refine zIload d_X12_shift_115 rfl (q := 117) rfl ?_
    refine zIcmp_ge d_X12_shift_117 (tgt := 147) (q := 120) (by decide) rfl (fun h117 => ?_) (fun h117 => ?_)
    · have e : k = c := by have := nle h117; omega
      subst e
      refine zIconst d_X12_shift_147 (v := 0) ic_0 (q := 148) rfl ?_
      refine zIstore d_X12_shift_148 (by decide) rfl (q := 150) rfl ?_
      refine zSub [0, 1, 2, 3, 4, 5, 6] rfl ?_
      exact two Q a b k hac hbc KK 0 (Nat.zero_le _) L1 (fun x hx => f1 x (by omega)) f2 (fun i => by rw [if_neg (by omega), f1 98 (by decide)])
    · have hlt := nnle h117
      refine zAloadN d_X12_shift_120 rfl rfl (q := 121) rfl ?_
      refine zGetR d_X12_shift_121 ff_X12_117 sh_64 (by decide) r_64_56 (q := 124) rfl ?_
      refine zIload d_X12_shift_124 rfl (q := 126) rfl ?_
      refine zAloadN d_X12_shift_126 rfl rfl (q := 127) rfl ?_
      refine zGetR d_X12_shift_127 ff_X12_113 sh_64 (by decide) r_64_55 (q := 130) rfl ?_
      refine zBipush d_X12_shift_130 (v := 60) bc_60 (q := 132) rfl ?_
      refine zIloadN d_X12_shift_132 rfl rfl (q := 133) rfl ?_
      refine zImul d_X12_shift_133 (q := 134) rfl ?_
      refine zIloadN d_X12_shift_134 rfl rfl (q := 135) rfl ?_
      refine zIadd d_X12_shift_135 (q := 136) rfl ?_
      refine zIload d_X12_shift_136 rfl (q := 138) rfl ?_
      refine zIadd d_X12_shift_138 (q := 139) rfl ?_
      refine zLald d_X12_shift_139 sh_98 (by decide) (show (60 : Int32) * nI q + nI a + nI k = nI (60 * q + a + k) by rw [z60, nI_add]) (by omega) (q := 140) rfl ?_
      rw [f1 98 (by decide)]
      refine zLast d_X12_shift_140 sh_99 (by decide) rfl (by omega) (q := 141) rfl ?_
      refine zIinc d_X12_shift_141 rfl (zinc _) (by decide) rfl (q := 144) rfl ?_
      refine zGoto d_X12_shift_144 (q := 113) (by decide) ?_
      refine zSub [0, 1, 2, 3, 4, 5, 6] rfl ?_
      refine ih hlt _ (fun x hx => by rw [zup_ne hx]; exact f1 x hx) (fun i hi => ?_)
      rw [zup_eq]
      by_cases e : i = k
      · subst e; rw [zup_eq]
      · rw [zup_ne e]; exact f2 i (by omega)
  refine zSp_of (lv := [(0, .ref 64), (1, .int (nI q)), (2, .int i0), (3, .int (nI p)), (4, .int j0), (5, .int n)]) k_X12_shift rfl (Nat.le_of_ble_eq_true rfl) ?_
  refine zIloadN d_X12_shift_0 rfl rfl (q := 1) rfl ?_
  refine zCallSP d_X12_shift_1 ml_X12_152 k_X12_isShelf kt_X12_isShelf (sp_X12_isShelf (d := d - 1) (by omega) ) rfl rfl (Nat.le_of_ble_eq_true rfl) (by decide) (by omega) zns100 (q := 4) rfl ?_
  refine zIf_eq d_X12_shift_4 (tgt := 14) (q := 7) (by decide) rfl (fun h => absurd h (zshelf_in hq)) (fun h4 => ?_)
  refine zIloadN d_X12_shift_7 rfl rfl (q := 8) rfl ?_
  refine zCallSP d_X12_shift_8 ml_X12_152 k_X12_isShelf kt_X12_isShelf (sp_X12_isShelf (d := d - 1) (by omega) ) rfl rfl (Nat.le_of_ble_eq_true rfl) (by decide) (by omega) zns100 (q := 11) rfl ?_
  refine zIf_ne d_X12_shift_11 (tgt := 16) (q := 14) (by decide) rfl (fun h11 => ?_) (fun h => absurd h (zshelf_in hp))
  refine zAloadN d_X12_shift_16 rfl rfl (q := 17) rfl ?_
  refine zGetR d_X12_shift_17 ff_X12_107 sh_64 (by decide) r_64_53 (q := 20) rfl ?_
  refine zIloadN d_X12_shift_20 rfl rfl (q := 21) rfl ?_
  refine zIald d_X12_shift_21 sh_96 (by decide) rfl hq (q := 22) rfl ?_
  refine zIconst d_X12_shift_22 (v := -1) ic_m1 (q := 23) rfl ?_
  refine zIcmp_eq d_X12_shift_23 (tgt := 36) (q := 26) (by decide) rfl (fun h23 => ?_) (fun h23 => ?_)
  · have c1 : V (42 + 2 * q) 1 = -1 ∨ V (42 + 2 * p) 1 = -1 := Or.inl ((em q hq).mp h23)
    refine zBipush d_X12_shift_36 (v := -11) bc_m11 (q := 38) rfl ?_
    refine zIret d_X12_shift_38 rfl rfl rfl ?_
    exact ⟨_, rfl, Or.inl ⟨c1, rfl, rfl⟩⟩
  · refine zAloadN d_X12_shift_26 rfl rfl (q := 27) rfl ?_
    refine zGetR d_X12_shift_27 ff_X12_107 sh_64 (by decide) r_64_53 (q := 30) rfl ?_
    refine zIloadN d_X12_shift_30 rfl rfl (q := 31) rfl ?_
    refine zIald d_X12_shift_31 sh_96 (by decide) rfl hp (q := 32) rfl ?_
    refine zIconst d_X12_shift_32 (v := -1) ic_m1 (q := 33) rfl ?_
    refine zIcmp_ne d_X12_shift_33 (tgt := 39) (q := 36) (by decide) rfl (fun h33 => ?_) (fun h33 => ?_)
    · have c1 : ¬ (V (42 + 2 * q) 1 = -1 ∨ V (42 + 2 * p) 1 = -1) := fun z => z.elim (fun y => h23 ((em q hq).mpr y)) (fun y => h33 ((em p hp).mpr y))
      have hz := zHc_eq h50 (hB q hq) (hB p hp) (fun y => c1 (Or.inl y)) (fun y => c1 (Or.inr y))
      rw [← q2, ← p2] at hz
      refine zAloadN d_X12_shift_39 rfl rfl (q := 40) rfl ?_
      refine zGetR d_X12_shift_40 ff_X12_107 sh_64 (by decide) r_64_53 (q := 43) rfl ?_
      refine zIloadN d_X12_shift_43 rfl rfl (q := 44) rfl ?_
      refine zIald d_X12_shift_44 sh_96 (by decide) rfl hq (q := 45) rfl ?_
      refine zIf_ge d_X12_shift_45 (tgt := 63) (q := 48) (by decide) rfl (fun h45 => ?_) (fun h45 => ?_)
      · have c2 : ¬ ((0 ≤ V (42 + 2 * q) 1 ∧ V (42 + 2 * q) 1 ≤ 4) ∧ V (42 + 2 * q) 1 = V (42 + 2 * p) 1) := fun z => (hz.mpr z).1 h45
        refine zBipush d_X12_shift_63 (v := -12) bc_m12 (q := 65) rfl ?_
        refine zIret d_X12_shift_65 rfl rfl rfl ?_
        exact ⟨_, rfl, Or.inr (Or.inl ⟨c1, c2, rfl, rfl⟩)⟩
      · refine zAloadN d_X12_shift_48 rfl rfl (q := 49) rfl ?_
        refine zGetR d_X12_shift_49 ff_X12_107 sh_64 (by decide) r_64_53 (q := 52) rfl ?_
        refine zIloadN d_X12_shift_52 rfl rfl (q := 53) rfl ?_
        refine zIald d_X12_shift_53 sh_96 (by decide) rfl hq (q := 54) rfl ?_
        refine zAloadN d_X12_shift_54 rfl rfl (q := 55) rfl ?_
        refine zGetR d_X12_shift_55 ff_X12_107 sh_64 (by decide) r_64_53 (q := 58) rfl ?_
        refine zIloadN d_X12_shift_58 rfl rfl (q := 59) rfl ?_
        refine zIald d_X12_shift_59 sh_96 (by decide) rfl hp (q := 60) rfl ?_
        refine zIcmp_eq d_X12_shift_60 (tgt := 66) (q := 63) (by decide) rfl (fun h60 => ?_) (fun h60 => ?_)
        · have c2 : (0 ≤ V (42 + 2 * q) 1 ∧ V (42 + 2 * q) 1 ≤ 4) ∧ V (42 + 2 * q) 1 = V (42 + 2 * p) 1 := hz.mp ⟨h45, h60⟩
          refine zIload d_X12_shift_66 rfl (q := 68) rfl ?_
          refine zIf_lt d_X12_shift_68 (tgt := 107) (q := 71) (by decide) rfl (fun h68 => ?_) (fun h68 => ?_)
          · have c3 : ¬ (0 ≤ n ∧ zRunIn i0 n (nI m1) ∧ zRunIn j0 n (nI m2)) := fun z => Int32.not_lt.mpr z.1 h68
            refine zBipush d_X12_shift_107 (v := -13) bc_m13 (q := 109) rfl ?_
            refine zIret d_X12_shift_109 rfl rfl rfl ?_
            exact ⟨_, rfl, Or.inr (Or.inr (Or.inl ⟨c1, c2, c3, rfl, rfl⟩))⟩
          · refine zIloadN d_X12_shift_71 rfl rfl (q := 72) rfl ?_
            refine zIf_lt d_X12_shift_72 (tgt := 107) (q := 75) (by decide) rfl (fun h72 => ?_) (fun h72 => ?_)
            · have c3 : ¬ (0 ≤ n ∧ zRunIn i0 n (nI m1) ∧ zRunIn j0 n (nI m2)) := fun z => Int32.not_lt.mpr z.2.1.1 h72
              refine zBipush d_X12_shift_107 (v := -13) bc_m13 (q := 109) rfl ?_
              refine zIret d_X12_shift_109 rfl rfl rfl ?_
              exact ⟨_, rfl, Or.inr (Or.inr (Or.inl ⟨c1, c2, c3, rfl, rfl⟩))⟩
            · refine zIload d_X12_shift_75 rfl (q := 77) rfl ?_
              refine zIf_lt d_X12_shift_77 (tgt := 107) (q := 80) (by decide) rfl (fun h77 => ?_) (fun h77 => ?_)
              · have c3 : ¬ (0 ≤ n ∧ zRunIn i0 n (nI m1) ∧ zRunIn j0 n (nI m2)) := fun z => Int32.not_lt.mpr z.2.2.1 h77
                refine zBipush d_X12_shift_107 (v := -13) bc_m13 (q := 109) rfl ?_
                refine zIret d_X12_shift_109 rfl rfl rfl ?_
                exact ⟨_, rfl, Or.inr (Or.inr (Or.inl ⟨c1, c2, c3, rfl, rfl⟩))⟩
              · refine zIloadN d_X12_shift_80 rfl rfl (q := 81) rfl ?_
                refine zAloadN d_X12_shift_81 rfl rfl (q := 82) rfl ?_
                refine zGetR d_X12_shift_82 ff_X12_110 sh_64 (by decide) r_64_54 (q := 85) rfl ?_
                refine zIloadN d_X12_shift_85 rfl rfl (q := 86) rfl ?_
                refine zIald d_X12_shift_86 sh_97 (by decide) rfl hq (q := 87) rfl ?_
                rw [q1, hm1]
                refine zIload d_X12_shift_87 rfl (q := 89) rfl ?_
                refine zIsub d_X12_shift_89 (q := 90) rfl ?_
                refine zIcmp_gt d_X12_shift_90 (tgt := 107) (q := 93) (by decide) rfl (fun h90 => ?_) (fun h90 => ?_)
                · have c3 : ¬ (0 ≤ n ∧ zRunIn i0 n (nI m1) ∧ zRunIn j0 n (nI m2)) := fun z => Int32.not_lt.mpr ((zRunIn_ref hs1).mp ⟨z.1, z.2.1⟩).2.2 h90
                  refine zBipush d_X12_shift_107 (v := -13) bc_m13 (q := 109) rfl ?_
                  refine zIret d_X12_shift_109 rfl rfl rfl ?_
                  exact ⟨_, rfl, Or.inr (Or.inr (Or.inl ⟨c1, c2, c3, rfl, rfl⟩))⟩
                · refine zIload d_X12_shift_93 rfl (q := 95) rfl ?_
                  refine zAloadN d_X12_shift_95 rfl rfl (q := 96) rfl ?_
                  refine zGetR d_X12_shift_96 ff_X12_110 sh_64 (by decide) r_64_54 (q := 99) rfl ?_
                  refine zIloadN d_X12_shift_99 rfl rfl (q := 100) rfl ?_
                  refine zIald d_X12_shift_100 sh_97 (by decide) rfl hp (q := 101) rfl ?_
                  rw [p1, hm2]
                  refine zIload d_X12_shift_101 rfl (q := 103) rfl ?_
                  refine zIsub d_X12_shift_103 (q := 104) rfl ?_
                  refine zIcmp_le d_X12_shift_104 (tgt := 110) (q := 107) (by decide) rfl (fun h104 => ?_) (fun h104 => ?_)
                  · have c3 : 0 ≤ n ∧ zRunIn i0 n (nI m1) ∧ zRunIn j0 n (nI m2) := ⟨Int32.not_lt.mp h68, ((zRunIn_ref hs1).mpr ⟨Int32.not_lt.mp h68, Int32.not_lt.mp h72, Int32.not_lt.mp h90⟩).2, ((zRunIn_ref hs2).mpr ⟨Int32.not_lt.mp h68, Int32.not_lt.mp h77, h104⟩).2⟩
                    obtain ⟨a, c, rfl, rfl, hac⟩ := zRunIn_of hs1 c3.1 c3.2.1
                    obtain ⟨b, c', rfl, ec, hbc⟩ := zRunIn_of hs2 c3.1 c3.2.2
                    obtain rfl := (nI_eq (by omega) (by omega)).mp ec
                    refine zIconst d_X12_shift_110 (v := 0) ic_0 (q := 111) rfl ?_
                    refine zIstore d_X12_shift_111 (by decide) rfl (q := 113) rfl ?_
                    refine zSub [0, 1, 2, 3, 4, 5, 6] rfl ?_
                    refine one _ a b c (by omega) (by omega) (fun L' g1 g2 => ?_) 0 (Nat.zero_le _) L (fun _ _ => rfl) (fun i hi => absurd hi (Nat.not_lt_zero _))
                    refine ⟨_, rfl, Or.inr (Or.inr (Or.inr ⟨c1, c2, c3, rfl, L', rfl, fun x hx => g1 x (by omega), ?_⟩))⟩
                    rw [zcl_n (by omega), zcl_n (by omega), zcl_n (by omega)]
                    refine zMd_h (I := I) (V := V) (L := L) (K := K) (fun a _ _ => rfl) (fun a ha => rfl) ?_ hD
                    refine zMh_at hp hH (fun k hk => rfl) (fun k hk => rfl) (fun k i hk hi => by rw [g2, if_neg (by omega)]) (fun _ _ => rfl) (fun a ha => zup_ne ha) p1 p2 (fun i hi => ?_)
                    rw [g2, zup_eq]
                    by_cases e : b ≤ i ∧ i < b + c
                    · rw [if_pos (by omega), pk_cpy_in e.1 e.2, show 60 * q + a + (60 * p + i - (60 * p + b)) = 60 * q + (a + (i - b)) by omega]
                      exact q3 _ (by omega)
                    · rw [if_neg (by omega), pk_cpy_out (by omega)]
                      exact p3 i hi
                  · have c3 : ¬ (0 ≤ n ∧ zRunIn i0 n (nI m1) ∧ zRunIn j0 n (nI m2)) := fun z => h104 ((zRunIn_ref hs2).mp ⟨z.1, z.2.2⟩).2.2
                    refine zBipush d_X12_shift_107 (v := -13) bc_m13 (q := 109) rfl ?_
                    refine zIret d_X12_shift_109 rfl rfl rfl ?_
                    exact ⟨_, rfl, Or.inr (Or.inr (Or.inl ⟨c1, c2, c3, rfl, rfl⟩))⟩
        · have c2 : ¬ ((0 ≤ V (42 + 2 * q) 1 ∧ V (42 + 2 * q) 1 ≤ 4) ∧ V (42 + 2 * q) 1 = V (42 + 2 * p) 1) := fun z => h60 (hz.mpr z).2
          refine zBipush d_X12_shift_63 (v := -12) bc_m12 (q := 65) rfl ?_
          refine zIret d_X12_shift_65 rfl rfl rfl ?_
          exact ⟨_, rfl, Or.inr (Or.inl ⟨c1, c2, rfl, rfl⟩)⟩
    · have c1 : V (42 + 2 * q) 1 = -1 ∨ V (42 + 2 * p) 1 = -1 := Or.inr ((em p hp).mp h33)
      refine zBipush d_X12_shift_36 (v := -11) bc_m11 (q := 38) rfl ?_
      refine zIret d_X12_shift_38 rfl rfl rfl ?_
      exact ⟨_, rfl, Or.inl ⟨c1, rfl, rfl⟩⟩
end S50

