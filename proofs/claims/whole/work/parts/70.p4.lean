theorem d_X12_operand_0 : decode (zmc m_X12_operand) 0 = .ok (.aload_n 0, 1) := by decide +kernel
theorem d_X12_operand_1 : decode (zmc m_X12_operand) 1 = .ok (.invokevirtual 206, 3) := by decide +kernel
theorem d_X12_operand_4 : decode (zmc m_X12_operand) 4 = .ok (.istore_n 1, 1) := by decide +kernel
theorem d_X12_operand_5 : decode (zmc m_X12_operand) 5 = .ok (.iload_n 1, 1) := by decide +kernel
theorem d_X12_operand_6 : decode (zmc m_X12_operand) 6 = .ok (.invokestatic 214, 3) := by decide +kernel
theorem d_X12_operand_9 : decode (zmc m_X12_operand) 9 = .ok (.ifCond .lt 25, 3) := by decide +kernel
theorem d_X12_operand_12 : decode (zmc m_X12_operand) 12 = .ok (.aload_n 0, 1) := by decide +kernel
theorem d_X12_operand_13 : decode (zmc m_X12_operand) 13 = .ok (.iconst 2, 1) := by decide +kernel
theorem d_X12_operand_14 : decode (zmc m_X12_operand) 14 = .ok (.iload_n 1, 1) := by decide +kernel
theorem d_X12_operand_15 : decode (zmc m_X12_operand) 15 = .ok (.invokestatic 214, 3) := by decide +kernel
theorem d_X12_operand_18 : decode (zmc m_X12_operand) 18 = .ok (.invokevirtual 210, 3) := by decide +kernel
theorem d_X12_operand_21 : decode (zmc m_X12_operand) 21 = .ok (.aload_n 0, 1) := by decide +kernel
theorem d_X12_operand_22 : decode (zmc m_X12_operand) 22 = .ok (.dup, 1) := by decide +kernel
theorem d_X12_operand_23 : decode (zmc m_X12_operand) 23 = .ok (.getfield 191, 3) := by decide +kernel
theorem d_X12_operand_26 : decode (zmc m_X12_operand) 26 = .ok (.iconst 1, 1) := by decide +kernel
theorem d_X12_operand_27 : decode (zmc m_X12_operand) 27 = .ok (.iadd, 1) := by decide +kernel
theorem d_X12_operand_28 : decode (zmc m_X12_operand) 28 = .ok (.putfield 191, 3) := by decide +kernel
theorem d_X12_operand_31 : decode (zmc m_X12_operand) 31 = .ok (.goto 123, 3) := by decide +kernel
theorem d_X12_operand_34 : decode (zmc m_X12_operand) 34 = .ok (.iload_n 1, 1) := by decide +kernel
theorem d_X12_operand_35 : decode (zmc m_X12_operand) 35 = .ok (.bipush 33, 2) := by decide +kernel
theorem d_X12_operand_37 : decode (zmc m_X12_operand) 37 = .ok (.if_icmp .eq 9, 3) := by decide +kernel
theorem d_X12_operand_40 : decode (zmc m_X12_operand) 40 = .ok (.iload_n 1, 1) := by decide +kernel
theorem d_X12_operand_41 : decode (zmc m_X12_operand) 41 = .ok (.bipush 45, 2) := by decide +kernel
theorem d_X12_operand_43 : decode (zmc m_X12_operand) 43 = .ok (.if_icmp .ne 44, 3) := by decide +kernel
theorem d_X12_operand_46 : decode (zmc m_X12_operand) 46 = .ok (.aload_n 0, 1) := by decide +kernel
theorem d_X12_operand_47 : decode (zmc m_X12_operand) 47 = .ok (.invokevirtual 217, 3) := by decide +kernel
theorem d_X12_operand_50 : decode (zmc m_X12_operand) 50 = .ok (.ifCond .ne 4, 3) := by decide +kernel
theorem d_X12_operand_53 : decode (zmc m_X12_operand) 53 = .ok (.return_, 1) := by decide +kernel
theorem d_X12_operand_54 : decode (zmc m_X12_operand) 54 = .ok (.aload_n 0, 1) := by decide +kernel
theorem d_X12_operand_55 : decode (zmc m_X12_operand) 55 = .ok (.invokevirtual 221, 3) := by decide +kernel
theorem d_X12_operand_58 : decode (zmc m_X12_operand) 58 = .ok (.aload_n 0, 1) := by decide +kernel
theorem d_X12_operand_59 : decode (zmc m_X12_operand) 59 = .ok (.dup, 1) := by decide +kernel
theorem d_X12_operand_60 : decode (zmc m_X12_operand) 60 = .ok (.getfield 200, 3) := by decide +kernel
theorem d_X12_operand_63 : decode (zmc m_X12_operand) 63 = .ok (.iconst 1, 1) := by decide +kernel
theorem d_X12_operand_64 : decode (zmc m_X12_operand) 64 = .ok (.isub, 1) := by decide +kernel
theorem d_X12_operand_65 : decode (zmc m_X12_operand) 65 = .ok (.putfield 200, 3) := by decide +kernel
theorem d_X12_operand_68 : decode (zmc m_X12_operand) 68 = .ok (.aload_n 0, 1) := by decide +kernel
theorem d_X12_operand_69 : decode (zmc m_X12_operand) 69 = .ok (.iload_n 1, 1) := by decide +kernel
theorem d_X12_operand_70 : decode (zmc m_X12_operand) 70 = .ok (.bipush 33, 2) := by decide +kernel
theorem d_X12_operand_72 : decode (zmc m_X12_operand) 72 = .ok (.if_icmp .ne 7, 3) := by decide +kernel
theorem d_X12_operand_75 : decode (zmc m_X12_operand) 75 = .ok (.iconst 3, 1) := by decide +kernel
theorem d_X12_operand_76 : decode (zmc m_X12_operand) 76 = .ok (.goto 4, 3) := by decide +kernel
theorem d_X12_operand_79 : decode (zmc m_X12_operand) 79 = .ok (.iconst 4, 1) := by decide +kernel
theorem d_X12_operand_80 : decode (zmc m_X12_operand) 80 = .ok (.iconst 0, 1) := by decide +kernel
theorem d_X12_operand_81 : decode (zmc m_X12_operand) 81 = .ok (.invokevirtual 210, 3) := by decide +kernel
theorem d_X12_operand_84 : decode (zmc m_X12_operand) 84 = .ok (.goto 70, 3) := by decide +kernel
theorem d_X12_operand_87 : decode (zmc m_X12_operand) 87 = .ok (.iload_n 1, 1) := by decide +kernel
theorem d_X12_operand_88 : decode (zmc m_X12_operand) 88 = .ok (.bipush 40, 2) := by decide +kernel
theorem d_X12_operand_90 : decode (zmc m_X12_operand) 90 = .ok (.if_icmp .ne 60, 3) := by decide +kernel
theorem d_X12_operand_93 : decode (zmc m_X12_operand) 93 = .ok (.aload_n 0, 1) := by decide +kernel
theorem d_X12_operand_94 : decode (zmc m_X12_operand) 94 = .ok (.invokevirtual 217, 3) := by decide +kernel
theorem d_X12_operand_97 : decode (zmc m_X12_operand) 97 = .ok (.ifCond .ne 4, 3) := by decide +kernel
theorem d_X12_operand_100 : decode (zmc m_X12_operand) 100 = .ok (.return_, 1) := by decide +kernel
theorem d_X12_operand_101 : decode (zmc m_X12_operand) 101 = .ok (.aload_n 0, 1) := by decide +kernel
theorem d_X12_operand_102 : decode (zmc m_X12_operand) 102 = .ok (.invokevirtual 224, 3) := by decide +kernel
theorem d_X12_operand_105 : decode (zmc m_X12_operand) 105 = .ok (.aload_n 0, 1) := by decide +kernel
theorem d_X12_operand_106 : decode (zmc m_X12_operand) 106 = .ok (.getfield 194, 3) := by decide +kernel
theorem d_X12_operand_109 : decode (zmc m_X12_operand) 109 = .ok (.ifCond .lt 4, 3) := by decide +kernel
theorem d_X12_operand_112 : decode (zmc m_X12_operand) 112 = .ok (.return_, 1) := by decide +kernel
theorem d_X12_operand_113 : decode (zmc m_X12_operand) 113 = .ok (.aload_n 0, 1) := by decide +kernel
theorem d_X12_operand_114 : decode (zmc m_X12_operand) 114 = .ok (.invokevirtual 206, 3) := by decide +kernel
theorem d_X12_operand_117 : decode (zmc m_X12_operand) 117 = .ok (.bipush 41, 2) := by decide +kernel
theorem d_X12_operand_119 : decode (zmc m_X12_operand) 119 = .ok (.if_icmp .eq 8, 3) := by decide +kernel
theorem d_X12_operand_122 : decode (zmc m_X12_operand) 122 = .ok (.aload_n 0, 1) := by decide +kernel
theorem d_X12_operand_123 : decode (zmc m_X12_operand) 123 = .ok (.invokevirtual 203, 3) := by decide +kernel
theorem d_X12_operand_126 : decode (zmc m_X12_operand) 126 = .ok (.return_, 1) := by decide +kernel
theorem d_X12_operand_127 : decode (zmc m_X12_operand) 127 = .ok (.aload_n 0, 1) := by decide +kernel
theorem d_X12_operand_128 : decode (zmc m_X12_operand) 128 = .ok (.dup, 1) := by decide +kernel
theorem d_X12_operand_129 : decode (zmc m_X12_operand) 129 = .ok (.getfield 191, 3) := by decide +kernel
theorem d_X12_operand_132 : decode (zmc m_X12_operand) 132 = .ok (.iconst 1, 1) := by decide +kernel
theorem d_X12_operand_133 : decode (zmc m_X12_operand) 133 = .ok (.iadd, 1) := by decide +kernel
theorem d_X12_operand_134 : decode (zmc m_X12_operand) 134 = .ok (.putfield 191, 3) := by decide +kernel
theorem d_X12_operand_137 : decode (zmc m_X12_operand) 137 = .ok (.aload_n 0, 1) := by decide +kernel
theorem d_X12_operand_138 : decode (zmc m_X12_operand) 138 = .ok (.dup, 1) := by decide +kernel
theorem d_X12_operand_139 : decode (zmc m_X12_operand) 139 = .ok (.getfield 200, 3) := by decide +kernel
theorem d_X12_operand_142 : decode (zmc m_X12_operand) 142 = .ok (.iconst 1, 1) := by decide +kernel
theorem d_X12_operand_143 : decode (zmc m_X12_operand) 143 = .ok (.isub, 1) := by decide +kernel
theorem d_X12_operand_144 : decode (zmc m_X12_operand) 144 = .ok (.putfield 200, 3) := by decide +kernel
theorem d_X12_operand_147 : decode (zmc m_X12_operand) 147 = .ok (.goto 7, 3) := by decide +kernel
theorem d_X12_operand_150 : decode (zmc m_X12_operand) 150 = .ok (.aload_n 0, 1) := by decide +kernel
theorem d_X12_operand_151 : decode (zmc m_X12_operand) 151 = .ok (.invokevirtual 227, 3) := by decide +kernel
theorem d_X12_operand_154 : decode (zmc m_X12_operand) 154 = .ok (.return_, 1) := by decide +kernel
/-! THE REFERENCE READS A TEXT: an operand, inside out -/
theorem zNm_sp {c : Int32} (h : ¬ zNm c < 0) : ¬ c = 40 ∧ ¬ c = 33 ∧ ¬ c = 45 ∧ ¬ (48 ≤ c ∧ c ≤ 57) ∧ ¬ c = -1 := by
  unfold zNm at h; grind (splits := 24)
theorem yOkS_op {I J : Nat → Nat → Int32} {m p o o' n : Nat} (h : yOkS I J m p o n) (hp : p < m) : yOkS I (zup J 64 (zup (zup (J 64) 24 (nI o')) 22 (nI (p + 1)))) m (p + 1) o' n := by
  have e : zup J 64 (zup (zup (J 64) 24 (nI o')) 22 (nI (p + 1))) = zup (zup J 64 (zup (J 64) 24 (nI o'))) 64 (zup ((zup J 64 (zup (J 64) 24 (nI o'))) 64) 22 (nI (p + 1))) := by rw [zup_zup, zup_eq]
  rw [e]
  exact ⟨yFrP_fld (yFrP_fld h.1 (by decide)) (by decide), ⟨rfl, h.2.1.2.1, rfl, h.2.1.2.2.2⟩, by have := h.2.2.1; omega, hp⟩
section S70
variable {g : zG} {l : Launch} {I : Nat → Nat → Int32} {T : Nat → Int32} {L : Nat → Nat → Int64} {fs : Nat × Nat × Option Nat} {m : Nat}
theorem sp_X12_operand (hT : I 79 = T) (h21 : I 64 21 = nI m) (hm : m ≤ 120) : ∀ (r : Nat), r ≤ 6 → ∀ d, 6 * r + 4 ≤ d → yPc g l d L fs I T m m_X12_operand (zOp T m r) (6 - r) := by
  intro r
  induction r with
  | zero =>
    intro hr d hd J p n hJ
    have hT1 : J 79 = T := (hJ.1.1 79 (by decide) (by decide) (by decide)).trans hT
    have h211 : J 64 21 = nI m := (hJ.1.2.1 21 (by decide)).trans h21
    obtain ⟨h22, h23, h24, h25⟩ := hJ.2.1
    have hp := hJ.2.2.2
    have hnp := hJ.2.2.1
    have eS : ¬ (zAt T m p = 40 ∨ zAt T m p = 33 ∨ zAt T m p = 45) → zOp T m 0 p = zOpS T m p := fun z => if_neg z
    have eB : (zAt T m p = 40 ∨ zAt T m p = 33 ∨ zAt T m p = 45) → zOp T m 0 p = (p, none) := fun z => if_pos z
    refine zSp_of (lv := [(0, .ref 64)]) k_X12_operand rfl (Nat.le_of_ble_eq_true rfl) ?_
    refine zAloadN d_X12_operand_0 rfl rfl (q := 1) rfl ?_
    refine zCallVP d_X12_operand_1 ml_X12_206 k_X12_look ki_X12_look ks_X12_look (sp_X12_look (d := d - 1) (by omega) hT1 h211 hm h22 (by omega)) rfl rfl sh_64 (by decide) rfl (by decide) (Nat.le_of_ble_eq_true rfl) (by decide) (by omega) zns100 (q := 4) rfl ?_
    refine zIstoreN d_X12_operand_4 rfl (by decide) rfl (q := 5) rfl ?_
    refine zIloadN d_X12_operand_5 rfl rfl (q := 6) rfl ?_
    refine zCallSP d_X12_operand_6 ml_X12_214 k_X12_nameOf kt_X12_nameOf (sp_X12_nameOf (d := d - 1) (by omega) ) rfl rfl (Nat.le_of_ble_eq_true rfl) (by decide) (by omega) zns100 (q := 9) rfl ?_
    refine zIf_lt d_X12_operand_9 (tgt := 34) (q := 12) (by decide) rfl (fun h9 => ?_) (fun h9 => ?_)
    · have hneg := h9
      refine zIloadN d_X12_operand_34 rfl rfl (q := 35) rfl ?_
      refine zBipush d_X12_operand_35 (v := 33) bc_33 (q := 37) rfl ?_
      refine zIcmp_eq d_X12_operand_37 (tgt := 46) (q := 40) (by decide) rfl (fun h37 => ?_) (fun h37 => ?_)
      · have ec : zAt T m p = 40 ∨ zAt T m p = 33 ∨ zAt T m p = 45 := Or.inr (Or.inl h37)
        refine zAloadN d_X12_operand_46 rfl rfl (q := 47) rfl ?_
        refine zCallVX d_X12_operand_47 ml_X12_217 k_X12_opens ki_X12_opens ks_X12_opens (sp_X12_opens (d := d - 1) (by omega) hJ (by decide)) rfl rfl sh_64 (by decide) rfl (by decide) (Nat.le_of_ble_eq_true rfl) (by decide) (by omega) zns100 (q := 50) rfl (fun x w' hw' => ?_)
        rcases hw' with ⟨-, rfl, rfl⟩ | ⟨z, -, -⟩
        rotate_left
        · exact absurd z (by decide)
        refine zIf_ne d_X12_operand_50 (tgt := 54) (q := 53) (by decide) rfl (fun h => absurd h (not_not_intro rfl)) (fun h50 => ?_)
        refine zVret d_X12_operand_53 rfl rfl ?_
        exact ⟨rfl, _, rfl, Or.inr ⟨by rw [eB ec]; exact Or.inl rfl, by rw [eB ec]; exact ⟨yFrP_fld hJ.1 (by decide), ⟨rfl, hp⟩, p, n, h22, h25, Nat.le_refl _, hp, by omega⟩⟩⟩
      · refine zIloadN d_X12_operand_40 rfl rfl (q := 41) rfl ?_
        refine zBipush d_X12_operand_41 (v := 45) bc_45 (q := 43) rfl ?_
        refine zIcmp_ne d_X12_operand_43 (tgt := 87) (q := 46) (by decide) rfl (fun h43 => ?_) (fun h43 => ?_)
        · refine zIloadN d_X12_operand_87 rfl rfl (q := 88) rfl ?_
          refine zBipush d_X12_operand_88 (v := 40) bc_40 (q := 90) rfl ?_
          refine zIcmp_ne d_X12_operand_90 (tgt := 150) (q := 93) (by decide) rfl (fun h90 => ?_) (fun h90 => ?_)
          · refine zAloadN d_X12_operand_150 rfl rfl (q := 151) rfl ?_
            refine zCallVV d_X12_operand_151 ml_X12_227 k_X12_figure ki_X12_figure ks_X12_figure (sp_X12_figure hT h21 hm (d := d - 1) (by omega) hJ hneg) rfl rfl sh_64 (by decide) rfl (by decide) (Nat.le_of_ble_eq_true rfl) (by decide) (by omega) zns100 (q := 154) rfl (fun w' hw' => ?_)
            obtain ⟨J1, rfl, hr1⟩ := hw'
            rw [← eS (fun z => by rcases z with z | z | z; exact h90 z; exact h37 z; exact h43 z)] at hr1
            refine zVret d_X12_operand_154 rfl rfl ?_
            first
            | exact ⟨rfl, J1, rfl, hr1⟩
            | exact ⟨rfl, _, rfl, Or.inl ⟨[(1, zNm (zAt T m p))], by rw [e5], by rw [e5]; exact ⟨yFrP_fld (yFrP_add hJ.1) (by decide), ⟨rfl, h23, h24, rfl⟩, Nat.succ_le_succ hnp, hpl⟩, yAdd_ly (J := J) (by decide)⟩⟩
          · have ec : zAt T m p = 40 ∨ zAt T m p = 33 ∨ zAt T m p = 45 := Or.inl h90
            refine zAloadN d_X12_operand_93 rfl rfl (q := 94) rfl ?_
            refine zCallVX d_X12_operand_94 ml_X12_217 k_X12_opens ki_X12_opens ks_X12_opens (sp_X12_opens (d := d - 1) (by omega) hJ (by decide)) rfl rfl sh_64 (by decide) rfl (by decide) (Nat.le_of_ble_eq_true rfl) (by decide) (by omega) zns100 (q := 97) rfl (fun x w' hw' => ?_)
            rcases hw' with ⟨-, rfl, rfl⟩ | ⟨z, -, -⟩
            rotate_left
            · exact absurd z (by decide)
            refine zIf_ne d_X12_operand_97 (tgt := 101) (q := 100) (by decide) rfl (fun h => absurd h (not_not_intro rfl)) (fun h97 => ?_)
            refine zVret d_X12_operand_100 rfl rfl ?_
            exact ⟨rfl, _, rfl, Or.inr ⟨by rw [eB ec]; exact Or.inl rfl, by rw [eB ec]; exact ⟨yFrP_fld hJ.1 (by decide), ⟨rfl, hp⟩, p, n, h22, h25, Nat.le_refl _, hp, by omega⟩⟩⟩
        · have ec : zAt T m p = 40 ∨ zAt T m p = 33 ∨ zAt T m p = 45 := Or.inr (Or.inr h43)
          refine zAloadN d_X12_operand_46 rfl rfl (q := 47) rfl ?_
          refine zCallVX d_X12_operand_47 ml_X12_217 k_X12_opens ki_X12_opens ks_X12_opens (sp_X12_opens (d := d - 1) (by omega) hJ (by decide)) rfl rfl sh_64 (by decide) rfl (by decide) (Nat.le_of_ble_eq_true rfl) (by decide) (by omega) zns100 (q := 50) rfl (fun x w' hw' => ?_)
          rcases hw' with ⟨-, rfl, rfl⟩ | ⟨z, -, -⟩
          rotate_left
          · exact absurd z (by decide)
          refine zIf_ne d_X12_operand_50 (tgt := 54) (q := 53) (by decide) rfl (fun h => absurd h (not_not_intro rfl)) (fun h50 => ?_)
          refine zVret d_X12_operand_53 rfl rfl ?_
          exact ⟨rfl, _, rfl, Or.inr ⟨by rw [eB ec]; exact Or.inl rfl, by rw [eB ec]; exact ⟨yFrP_fld hJ.1 (by decide), ⟨rfl, hp⟩, p, n, h22, h25, Nat.le_refl _, hp, by omega⟩⟩⟩
    · have hnn := h9
      obtain ⟨n40, n33, n45, ndg, nm1⟩ := zNm_sp hnn
      have hpl := zAt_in nm1
      have e5 : zOp T m 0 p = (p + 1, some [(1, zNm (zAt T m p))]) := by rw [eS (fun z => by rcases z with z | z | z; exact n40 z; exact n33 z; exact n45 z)]; unfold zOpS; rw [if_neg ndg, if_neg hnn]
      refine zAloadN d_X12_operand_12 rfl rfl (q := 13) rfl ?_
      refine zIconst d_X12_operand_13 (v := 2) ic_2 (q := 14) rfl ?_
      refine zIloadN d_X12_operand_14 rfl rfl (q := 15) rfl ?_
      refine zCallSP d_X12_operand_15 ml_X12_214 k_X12_nameOf kt_X12_nameOf (sp_X12_nameOf (d := d - 1) (by omega) ) rfl rfl (Nat.le_of_ble_eq_true rfl) (by decide) (by omega) zns100 (q := 18) rfl ?_
      refine zCallVV d_X12_operand_18 ml_X12_210 k_X12_addStep ki_X12_addStep ks_X12_addStep (sp_X12_addStep (d := d - 1) (by omega) h25 (by omega) (by decide)) rfl rfl sh_64 (by decide) rfl (by decide) (Nat.le_of_ble_eq_true rfl) (by decide) (by omega) zns100 (q := 21) rfl (fun w' hw' => ?_)
      subst hw'
      refine zAloadN d_X12_operand_21 rfl rfl (q := 22) rfl ?_
      refine zDup d_X12_operand_22 rfl (q := 23) rfl ?_
      refine zGetI d_X12_operand_23 ff_X12_191 sh_64 (by decide) (q := 26) rfl ?_
      refine zIconst d_X12_operand_26 (v := 1) ic_1 (q := 27) rfl ?_
      refine zIadd d_X12_operand_27 (q := 28) rfl ?_
      rw [show (yAdd J n 2 (zNm (zAt T m p))) 64 22 + 1 = nI (p + 1) by show J 64 22 + 1 = _; rw [h22, nI_1]]
      refine zPutI d_X12_operand_28 ff_X12_191 rfl rfl rfl sh_64 (by decide) (q := 31) rfl ?_
      refine zGoto d_X12_operand_31 (q := 154) (by decide) ?_
      refine zVret d_X12_operand_154 rfl rfl ?_
      first
      | exact ⟨rfl, J1, rfl, hr1⟩
      | exact ⟨rfl, _, rfl, Or.inl ⟨[(1, zNm (zAt T m p))], by rw [e5], by rw [e5]; exact ⟨yFrP_fld (yFrP_add hJ.1) (by decide), ⟨rfl, h23, h24, rfl⟩, Nat.succ_le_succ hnp, hpl⟩, yAdd_ly (J := J) (by decide)⟩⟩
  | succ r ih =>
    intro hr d hd J p n hJ
    have hT1 : J 79 = T := (hJ.1.1 79 (by decide) (by decide) (by decide)).trans hT
    have h211 : J 64 21 = nI m := (hJ.1.2.1 21 (by decide)).trans h21
    obtain ⟨h22, h23, h24, h25⟩ := hJ.2.1
    have hp := hJ.2.2.2
    have hnp := hJ.2.2.1
    have ho1 : 6 - (r + 1) + 1 = 6 - r := by omega
    have eS : ¬ (zAt T m p = 40) → ¬ (zAt T m p = 33 ∨ zAt T m p = 45) → zOp T m (r + 1) p = zOpS T m p := fun z1 z2 => by show (if _ then _ else _) = _; rw [if_neg z1, if_neg z2]
    have eT : (zAt T m p = 33 ∨ zAt T m p = 45) → zOp T m (r + 1) p = zOpT (zOp T m r) (zAt T m p) p := fun z => by
      show (if _ then _ else _) = _
      rw [if_neg (fun y => by rcases z with z | z <;> (rw [z] at y; exact absurd y (by decide))), if_pos z]
    have eB : zAt T m p = 40 → zOp T m (r + 1) p = zOpB (zOp T m r) T m p := fun z => if_pos z
    -- behind ! or -
    have tail : ∀ s q J3 n3, J3 64 25 = nI n3 → n3 < 130 → (s = 33 → q = 3) → (¬ s = 33 → q = 4) → J3 64 24 = nI (6 - r) → yR I J T m p (6 - (r + 1)) n (zOp T m (r + 1) p) (yAdd (zup J3 64 (zup (J3 64) 24 (nI (6 - (r + 1))))) n3 q 0) → zA g l d m_X12_operand J3 L fs 58 [(1, .int s), (0, .ref 64)] (zV (fun w => ∃ J', w = zU J' L fs ∧ yR I J T m p (6 - (r + 1)) n (zOp T m (r + 1) p) J')) := by
      intro s q J3 n3 h25' h130 hq1 hq2 h24' KK
      have e24 : J3 64 24 - 1 = nI (6 - (r + 1)) := by rw [h24', ← ho1, nI_pred]
      refine zAloadN d_X12_operand_58 rfl rfl (q := 59) rfl ?_
      refine zDup d_X12_operand_59 rfl (q := 60) rfl ?_
      refine zGetI d_X12_operand_60 ff_X12_200 sh_64 (by decide) (q := 63) rfl ?_
      refine zIconst d_X12_operand_63 (v := 1) ic_1 (q := 64) rfl ?_
      refine zIsub d_X12_operand_64 (q := 65) rfl ?_
      rw [e24]
      refine zPutI d_X12_operand_65 ff_X12_200 rfl rfl rfl sh_64 (by decide) (q := 68) rfl ?_
      refine zAloadN d_X12_operand_68 rfl rfl (q := 69) rfl ?_
      refine zIloadN d_X12_operand_69 rfl rfl (q := 70) rfl ?_
      refine zBipush d_X12_operand_70 (v := 33) bc_33 (q := 72) rfl ?_
      refine zIcmp_ne d_X12_operand_72 (tgt := 79) (q := 75) (by decide) rfl (fun h72 => ?_) (fun h72 => ?_)
      · rw [hq2 h72] at KK
        refine zIconst d_X12_operand_79 (v := 4) ic_4 (q := 80) rfl ?_
        refine zIconst d_X12_operand_80 (v := 0) ic_0 (q := 81) rfl ?_
        refine zCallVV d_X12_operand_81 ml_X12_210 k_X12_addStep ki_X12_addStep ks_X12_addStep (sp_X12_addStep (J := zup J3 64 (zup (J3 64) 24 (nI (6 - (r + 1))))) (n := n3) (d := d - 1) (by omega) h25' h130 (by decide)) rfl rfl sh_64 (by decide) rfl (by decide) (Nat.le_of_ble_eq_true rfl) (by decide) (by omega) zns100 (q := 84) rfl (fun w' hw' => ?_)
        subst hw'
        refine zGoto d_X12_operand_84 (q := 154) (by decide) ?_
        refine zVret d_X12_operand_154 rfl rfl ?_
        exact ⟨rfl, _, rfl, KK⟩
      · rw [hq1 h72] at KK
        refine zIconst d_X12_operand_75 (v := 3) ic_3 (q := 76) rfl ?_
        refine zGoto d_X12_operand_76 (q := 80) (by decide) ?_
        refine zIconst d_X12_operand_80 (v := 0) ic_0 (q := 81) rfl ?_
        refine zCallVV d_X12_operand_81 ml_X12_210 k_X12_addStep ki_X12_addStep ks_X12_addStep (sp_X12_addStep (J := zup J3 64 (zup (J3 64) 24 (nI (6 - (r + 1))))) (n := n3) (d := d - 1) (by omega) h25' h130 (by decide)) rfl rfl sh_64 (by decide) rfl (by decide) (Nat.le_of_ble_eq_true rfl) (by decide) (by omega) zns100 (q := 84) rfl (fun w' hw' => ?_)
        subst hw'
        refine zGoto d_X12_operand_84 (q := 154) (by decide) ?_
        refine zVret d_X12_operand_154 rfl rfl ?_
        exact ⟨rfl, _, rfl, KK⟩
    have tailB : ∀ s q J3 n3, J3 64 25 = nI n3 → n3 < 130 → (s = 33 → q = 3) → (¬ s = 33 → q = 4) → (∀ x, yR I J T m p (6 - (r + 1)) n (zOp T m (r + 1) p) (yAdd (zup J3 64 (zup (J3 64) 24 x)) n3 q 0)) → zA g l d m_X12_operand J3 L fs 58 [(1, .int s), (0, .ref 64)] (zV (fun w => ∃ J', w = zU J' L fs ∧ yR I J T m p (6 - (r + 1)) n (zOp T m (r + 1) p) J')) := by
      intro s q J3 n3 h25' h130 hq1 hq2 KK
      refine zAloadN d_X12_operand_58 rfl rfl (q := 59) rfl ?_
      refine zDup d_X12_operand_59 rfl (q := 60) rfl ?_
      refine zGetI d_X12_operand_60 ff_X12_200 sh_64 (by decide) (q := 63) rfl ?_
      refine zIconst d_X12_operand_63 (v := 1) ic_1 (q := 64) rfl ?_
      refine zIsub d_X12_operand_64 (q := 65) rfl ?_
      refine zPutI d_X12_operand_65 ff_X12_200 rfl rfl rfl sh_64 (by decide) (q := 68) rfl ?_
      refine zAloadN d_X12_operand_68 rfl rfl (q := 69) rfl ?_
      refine zIloadN d_X12_operand_69 rfl rfl (q := 70) rfl ?_
      refine zBipush d_X12_operand_70 (v := 33) bc_33 (q := 72) rfl ?_
      refine zIcmp_ne d_X12_operand_72 (tgt := 79) (q := 75) (by decide) rfl (fun h72 => ?_) (fun h72 => ?_)
      · rw [hq2 h72] at KK
        refine zIconst d_X12_operand_79 (v := 4) ic_4 (q := 80) rfl ?_
        refine zIconst d_X12_operand_80 (v := 0) ic_0 (q := 81) rfl ?_
        refine zCallVV d_X12_operand_81 ml_X12_210 k_X12_addStep ki_X12_addStep ks_X12_addStep (sp_X12_addStep (J := zup J3 64 (zup (J3 64) 24 (J3 64 24 - 1))) (n := n3) (d := d - 1) (by omega) h25' h130 (by decide)) rfl rfl sh_64 (by decide) rfl (by decide) (Nat.le_of_ble_eq_true rfl) (by decide) (by omega) zns100 (q := 84) rfl (fun w' hw' => ?_)
        subst hw'
        refine zGoto d_X12_operand_84 (q := 154) (by decide) ?_
        refine zVret d_X12_operand_154 rfl rfl ?_
        exact ⟨rfl, _, rfl, KK _⟩
      · rw [hq1 h72] at KK
        refine zIconst d_X12_operand_75 (v := 3) ic_3 (q := 76) rfl ?_
        refine zGoto d_X12_operand_76 (q := 80) (by decide) ?_
        refine zIconst d_X12_operand_80 (v := 0) ic_0 (q := 81) rfl ?_
        refine zCallVV d_X12_operand_81 ml_X12_210 k_X12_addStep ki_X12_addStep ks_X12_addStep (sp_X12_addStep (J := zup J3 64 (zup (J3 64) 24 (J3 64 24 - 1))) (n := n3) (d := d - 1) (by omega) h25' h130 (by decide)) rfl rfl sh_64 (by decide) rfl (by decide) (Nat.le_of_ble_eq_true rfl) (by decide) (by omega) zns100 (q := 84) rfl (fun w' hw' => ?_)
        subst hw'
        refine zGoto d_X12_operand_84 (q := 154) (by decide) ?_
        refine zVret d_X12_operand_154 rfl rfl ?_
        exact ⟨rfl, _, rfl, KK _⟩
    -- behind ( E
    have okB : ∀ J3 p2 c1, yOkS I J3 m p2 (6 - r) (n + c1.length) → yLy J J3 n c1 → p + 1 + c1.length ≤ p2 → zOp T m (r + 1) p = (if zAt T m p2 = 41 then (p2 + 1, some c1) else (p2, none)) → zA g l d m_X12_operand J3 L fs 105 [(0, .ref 64)] (zV (fun w => ∃ J', w = zU J' L fs ∧ yR I J T m p (6 - (r + 1)) n (zOp T m (r + 1) p) J')) := by
      intro J3 p2 c1 h1 hly hpc hR
      have hT3 : J3 79 = T := (h1.1.1 79 (by decide) (by decide) (by decide)).trans hT
      have h213 : J3 64 21 = nI m := (h1.1.2.1 21 (by decide)).trans h21
      obtain ⟨g22, g23, g24, g25⟩ := h1.2.1
      have hp2 := h1.2.2.2
      have e24 : J3 64 24 - 1 = nI (6 - (r + 1)) := by rw [g24, ← ho1, nI_pred]
      refine zAloadN d_X12_operand_105 rfl rfl (q := 106) rfl ?_
      refine zGetI d_X12_operand_106 ff_X12_194 sh_64 (by decide) (q := 109) rfl ?_
      refine zIf_lt d_X12_operand_109 (tgt := 113) (q := 112) (by decide) rfl (fun h109 => ?_) (fun h => absurd (by rw [g23]; decide) h)
      refine zAloadN d_X12_operand_113 rfl rfl (q := 114) rfl ?_
      refine zCallVP d_X12_operand_114 ml_X12_206 k_X12_look ki_X12_look ks_X12_look (sp_X12_look (d := d - 1) (by omega) hT3 h213 hm g22 (by omega)) rfl rfl sh_64 (by decide) rfl (by decide) (Nat.le_of_ble_eq_true rfl) (by decide) (by omega) zns100 (q := 117) rfl ?_
      refine zBipush d_X12_operand_117 (v := 41) bc_41 (q := 119) rfl ?_
      refine zIcmp_eq d_X12_operand_119 (tgt := 127) (q := 122) (by decide) rfl (fun h119 => ?_) (fun h119 => ?_)
      · rw [if_pos h119] at hR
        have hpl := zAt_in (T := T) (m := m) (p := p2) (by rw [h119]; decide)
        refine zAloadN d_X12_operand_127 rfl rfl (q := 128) rfl ?_
        refine zDup d_X12_operand_128 rfl (q := 129) rfl ?_
        refine zGetI d_X12_operand_129 ff_X12_191 sh_64 (by decide) (q := 132) rfl ?_
        refine zIconst d_X12_operand_132 (v := 1) ic_1 (q := 133) rfl ?_
        refine zIadd d_X12_operand_133 (q := 134) rfl ?_
        rw [g22, nI_1]
        refine zPutI d_X12_operand_134 ff_X12_191 rfl rfl rfl sh_64 (by decide) (q := 137) rfl ?_
        refine zAloadN d_X12_operand_137 rfl rfl (q := 138) rfl ?_
        refine zDup d_X12_operand_138 rfl (q := 139) rfl ?_
        refine zGetI d_X12_operand_139 ff_X12_200 sh_64 (by decide) (q := 142) rfl ?_
        refine zIconst d_X12_operand_142 (v := 1) ic_1 (q := 143) rfl ?_
        refine zIsub d_X12_operand_143 (q := 144) rfl ?_
        rw [show (zup J3 64 (zup (J3 64) 22 (nI (p2 + 1)))) 64 24 - 1 = nI (6 - (r + 1)) from e24]
        refine zPutI d_X12_operand_144 ff_X12_200 rfl rfl rfl sh_64 (by decide) (q := 147) rfl ?_
        refine zGoto d_X12_operand_147 (q := 154) (by decide) ?_
        refine zVret d_X12_operand_154 rfl rfl ?_
        exact ⟨rfl, _, rfl, Or.inl ⟨c1, by rw [hR], by rw [hR]; exact ⟨yFrP_fld (yFrP_fld h1.1 (by decide)) (by decide), ⟨rfl, g23, rfl, g25⟩, by have := h1.2.2.1; omega, hpl⟩, hly⟩⟩
      · refine zAloadN d_X12_operand_122 rfl rfl (q := 123) rfl ?_
        refine zCallVV d_X12_operand_123 ml_X12_203 k_X12_wrong ki_X12_wrong ks_X12_wrong (sp_X12_wrong (d := d - 1) (by omega) g23) rfl rfl sh_64 (by decide) rfl (by decide) (Nat.le_of_ble_eq_true rfl) (by decide) (by omega) zns100 (q := 126) rfl (fun w' hw' => ?_)
        subst hw'
        rw [g22]
        refine zVret d_X12_operand_126 rfl rfl ?_
        rw [if_neg h119] at hR
        exact ⟨rfl, _, rfl, Or.inr ⟨by rw [hR]; exact Or.inl rfl, by rw [hR]; exact ⟨yFrP_fld h1.1 (by decide), ⟨rfl, hp2⟩, p2, n + c1.length, g22, g25, by omega, hp2, by omega⟩⟩⟩
    have badB : ∀ J3, yBdS I J3 m p n (zOp T m (r + 1) p).1 → (zOp T m (r + 1) p).2 = none → zA g l d m_X12_operand J3 L fs 105 [(0, .ref 64)] (zV (fun w => ∃ J', w = zU J' L fs ∧ yR I J T m p (6 - (r + 1)) n (zOp T m (r + 1) p) J')) := by
      intro J3 h1 h2
      refine zAloadN d_X12_operand_105 rfl rfl (q := 106) rfl ?_
      refine zGetI d_X12_operand_106 ff_X12_194 sh_64 (by decide) (q := 109) rfl ?_
      refine zIf_lt d_X12_operand_109 (tgt := 113) (q := 112) (by decide) rfl (fun h => absurd h (by rw [h1.2.1.1]; exact nI_pos (by have := h1.2.1.2; omega))) (fun h109 => ?_)
      refine zVret d_X12_operand_112 rfl rfl ?_
      exact ⟨rfl, J3, rfl, Or.inr ⟨Or.inl h2, h1⟩⟩
    refine zSp_of (lv := [(0, .ref 64)]) k_X12_operand rfl (Nat.le_of_ble_eq_true rfl) ?_
    refine zAloadN d_X12_operand_0 rfl rfl (q := 1) rfl ?_
    refine zCallVP d_X12_operand_1 ml_X12_206 k_X12_look ki_X12_look ks_X12_look (sp_X12_look (d := d - 1) (by omega) hT1 h211 hm h22 (by omega)) rfl rfl sh_64 (by decide) rfl (by decide) (Nat.le_of_ble_eq_true rfl) (by decide) (by omega) zns100 (q := 4) rfl ?_
    refine zIstoreN d_X12_operand_4 rfl (by decide) rfl (q := 5) rfl ?_
    refine zIloadN d_X12_operand_5 rfl rfl (q := 6) rfl ?_
    refine zCallSP d_X12_operand_6 ml_X12_214 k_X12_nameOf kt_X12_nameOf (sp_X12_nameOf (d := d - 1) (by omega) ) rfl rfl (Nat.le_of_ble_eq_true rfl) (by decide) (by omega) zns100 (q := 9) rfl ?_
    refine zIf_lt d_X12_operand_9 (tgt := 34) (q := 12) (by decide) rfl (fun h9 => ?_) (fun h9 => ?_)
    · have hneg := h9
      refine zIloadN d_X12_operand_34 rfl rfl (q := 35) rfl ?_
      refine zBipush d_X12_operand_35 (v := 33) bc_33 (q := 37) rfl ?_
      refine zIcmp_eq d_X12_operand_37 (tgt := 46) (q := 40) (by decide) rfl (fun h37 => ?_) (fun h37 => ?_)
      · have ec : zAt T m p = 33 ∨ zAt T m p = 45 := Or.inl h37
        have hpl := zAt_in (T := T) (m := m) (p := p) (by intro z; rcases ec with y | y <;> (rw [z] at y; exact absurd y (by decide)))
        refine zAloadN d_X12_operand_46 rfl rfl (q := 47) rfl ?_
        refine zCallVX d_X12_operand_47 ml_X12_217 k_X12_opens ki_X12_opens ks_X12_opens (sp_X12_opens (d := d - 1) (by omega) hJ (by omega)) rfl rfl sh_64 (by decide) rfl (by decide) (Nat.le_of_ble_eq_true rfl) (by decide) (by omega) zns100 (q := 50) rfl (fun x w' hw' => ?_)
        rcases hw' with ⟨z, -, -⟩ | ⟨-, rfl, rfl⟩
        · exact absurd z (by omega)
        rw [ho1]
        refine zIf_ne d_X12_operand_50 (tgt := 54) (q := 53) (by decide) rfl (fun h50 => ?_) (fun h => absurd h (by decide))
        refine zAloadN d_X12_operand_54 rfl rfl (q := 55) rfl ?_
        refine zCallVV d_X12_operand_55 ml_X12_221 k_X12_operand ki_X12_operand ks_X12_operand (ih (by omega) (d - 1) (by omega) _ (p + 1) n (yOkS_op hJ hpl)) rfl rfl sh_64 (by decide) rfl (by decide) (Nat.le_of_ble_eq_true rfl) (by decide) (by omega) zns100 (q := 58) rfl (fun w' hw' => ?_)
        obtain ⟨J3, rfl, hr3⟩ := hw'
        refine zSub [0, 1] rfl ?_
        have q1 : zAt T m p = 33 → (if zAt T m p = 33 then (3 : Int32) else 4) = 3 := fun z => if_pos z
        have q2 : ¬ zAt T m p = 33 → (if zAt T m p = 33 then (3 : Int32) else 4) = 4 := fun z => if_neg z
        have q3 : (if zAt T m p = 33 then (3 : Int32) else 4) = zRc (if zAt T m p = 33 then 4 else 5) := by split <;> decide
        have hg := (zOp_gd (T := T) r) (p + 1) hpl
        rcases hr3 with ⟨c1, e1, ok, ly⟩ | ⟨e1, bd⟩
        · have hg3 := hg.2.2 c1 e1
          have hok := ok.2.2.2
          have eR : zOp T m (r + 1) p = ((zOp T m r (p + 1)).1, some (c1 ++ [((if zAt T m p = 33 then 4 else 5), 0)])) := by rw [eT ec]; unfold zOpT; rw [e1]
          refine tail (zAt T m p) _ J3 (n + c1.length) ok.2.1.2.2.2 (by omega) q1 q2 ok.2.1.2.2.1 (Or.inl ⟨c1 ++ [((if zAt T m p = 33 then 4 else 5), 0)], by rw [eR], ?_, yLy_app (J1 := J3) ly (yAdd_ly (J := zup J3 64 (zup (J3 64) 24 (nI (6 - (r + 1))))) q3)⟩)
          rw [eR, List.length_append]
          exact yAdd_ok (n := n + c1.length) (J := zup J3 64 (zup (J3 64) 24 (nI (6 - (r + 1))))) ⟨yFrP_fld ok.1 (by decide), ok.2.1.1, ok.2.1.2.1, rfl, ok.2.1.2.2.2⟩ (by omega) hok
        · have eR : (zOp T m (r + 1) p).1 = (zOp T m r (p + 1)).1 ∧ ((zOp T m (r + 1) p).2 = none ∨ yDg T m (zOp T m (r + 1) p).1) := by
            rw [eT ec]
            unfold zOpT
            rcases e3 : (zOp T m r (p + 1)).2 with _ | c1
            · exact ⟨rfl, Or.inl rfl⟩
            · exact ⟨rfl, Or.inr (e1.resolve_left (by rw [e3]; exact fun z => by cases z))⟩
          obtain ⟨n', k4, -, k7, k8⟩ := yBdS_add (p := p) (n := n) (a := (if zAt T m p = 33 then 3 else 4)) (b := 0) bd (by omega) (by omega)
          refine tailB (zAt T m p) _ J3 n' k4 (by have := k7 hnp; omega) q1 q2 (fun x => Or.inr ⟨eR.2, ?_⟩)
          rw [eR.1]
          obtain ⟨b1, b2, p', n2, b3, b4, b5, b6, b7⟩ := bd
          have en : n2 = n' := (nI_eq (by omega) (by have := k7 hnp; omega)).mp (b4.symm.trans k4)
          subst en
          exact ⟨yFrP_add (yFrP_fld b1 (by decide)), b2, p', n2 + 1, b3, rfl, by omega, b6, by omega⟩
      · refine zIloadN d_X12_operand_40 rfl rfl (q := 41) rfl ?_
        refine zBipush d_X12_operand_41 (v := 45) bc_45 (q := 43) rfl ?_
        refine zIcmp_ne d_X12_operand_43 (tgt := 87) (q := 46) (by decide) rfl (fun h43 => ?_) (fun h43 => ?_)
        · refine zIloadN d_X12_operand_87 rfl rfl (q := 88) rfl ?_
          refine zBipush d_X12_operand_88 (v := 40) bc_40 (q := 90) rfl ?_
          refine zIcmp_ne d_X12_operand_90 (tgt := 150) (q := 93) (by decide) rfl (fun h90 => ?_) (fun h90 => ?_)
          · refine zAloadN d_X12_operand_150 rfl rfl (q := 151) rfl ?_
            refine zCallVV d_X12_operand_151 ml_X12_227 k_X12_figure ki_X12_figure ks_X12_figure (sp_X12_figure hT h21 hm (d := d - 1) (by omega) hJ hneg) rfl rfl sh_64 (by decide) rfl (by decide) (Nat.le_of_ble_eq_true rfl) (by decide) (by omega) zns100 (q := 154) rfl (fun w' hw' => ?_)
            obtain ⟨J1, rfl, hr1⟩ := hw'
            rw [← eS h90 (fun z => by rcases z with z | z; exact h37 z; exact h43 z)] at hr1
            refine zVret d_X12_operand_154 rfl rfl ?_
            first
            | exact ⟨rfl, J1, rfl, hr1⟩
            | exact ⟨rfl, _, rfl, Or.inl ⟨[(1, zNm (zAt T m p))], by rw [e5], by rw [e5]; exact ⟨yFrP_fld (yFrP_add hJ.1) (by decide), ⟨rfl, h23, h24, rfl⟩, Nat.succ_le_succ hnp, hpl⟩, yAdd_ly (J := J) (by decide)⟩⟩
          · have hpl := zAt_in (T := T) (m := m) (p := p) (by rw [h90]; decide)
            refine zAloadN d_X12_operand_93 rfl rfl (q := 94) rfl ?_
            refine zCallVX d_X12_operand_94 ml_X12_217 k_X12_opens ki_X12_opens ks_X12_opens (sp_X12_opens (d := d - 1) (by omega) hJ (by omega)) rfl rfl sh_64 (by decide) rfl (by decide) (Nat.le_of_ble_eq_true rfl) (by decide) (by omega) zns100 (q := 97) rfl (fun x w' hw' => ?_)
            rcases hw' with ⟨z, -, -⟩ | ⟨-, rfl, rfl⟩
            · exact absurd z (by omega)
            rw [ho1]
            refine zIf_ne d_X12_operand_97 (tgt := 101) (q := 100) (by decide) rfl (fun h97 => ?_) (fun h => absurd h (by decide))
            refine zAloadN d_X12_operand_101 rfl rfl (q := 102) rfl ?_
            refine zCallVV d_X12_operand_102 ml_X12_224 k_X12_either ki_X12_either ks_X12_either (sp_eitherOf hT h21 hm (zOp_gd (T := T) r) (D := 6 * r + 4) (by omega) (fun d hd ↦ ih (by omega) d hd) (d := d - 1) (by omega) _ (p + 1) n (yOkS_op hJ hpl)) rfl rfl sh_64 (by decide) rfl (by decide) (Nat.le_of_ble_eq_true rfl) (by decide) (by omega) zns100 (q := 105) rfl (fun w' hw' => ?_)
            obtain ⟨J3, rfl, hr3⟩ := hw'
            refine zSub [1] rfl ?_
            have hg := (zLev_gd (T := T) (f := zOp T m r) (zOp_gd r) 5 (by decide)) (p + 1) hpl
            rcases hr3 with ⟨c1, e1, ok, ly⟩ | ⟨e1, bd⟩
            · have hg3 := hg.2.2 c1 e1
              exact okB J3 _ c1 ok ly hg3.1 (by rw [eB h90]; unfold zOpB; rw [e1])
            · have eR : (zOp T m (r + 1) p).1 = (zLev (zOp T m r) T m 5 (p + 1)).1 ∧ (zOp T m (r + 1) p).2 = none := by
                rw [eB h90]
                unfold zOpB
                rcases e3 : (zLev (zOp T m r) T m 5 (p + 1)).2 with _ | c1
                · exact ⟨rfl, rfl⟩
                · have dg := e1.resolve_left (by rw [e3]; exact fun z => by cases z)
                  have n41 : ¬ zAt T m (zLev (zOp T m r) T m 5 (p + 1)).1 = 41 := fun z => by have d1 := dg.1; rw [z] at d1; exact absurd d1 (by decide)
                  show (if _ then _ else _ : zRr).1 = _ ∧ (if _ then _ else _ : zRr).2 = _
                  rw [if_neg n41]
                  exact ⟨rfl, rfl⟩
              refine badB J3 ?_ eR.2
              rw [eR.1]
              exact yBdS_up bd (by omega) (by omega)
        · have ec : zAt T m p = 33 ∨ zAt T m p = 45 := Or.inr h43
          have hpl := zAt_in (T := T) (m := m) (p := p) (by intro z; rcases ec with y | y <;> (rw [z] at y; exact absurd y (by decide)))
          refine zAloadN d_X12_operand_46 rfl rfl (q := 47) rfl ?_
          refine zCallVX d_X12_operand_47 ml_X12_217 k_X12_opens ki_X12_opens ks_X12_opens (sp_X12_opens (d := d - 1) (by omega) hJ (by omega)) rfl rfl sh_64 (by decide) rfl (by decide) (Nat.le_of_ble_eq_true rfl) (by decide) (by omega) zns100 (q := 50) rfl (fun x w' hw' => ?_)
          rcases hw' with ⟨z, -, -⟩ | ⟨-, rfl, rfl⟩
          · exact absurd z (by omega)
          rw [ho1]
          refine zIf_ne d_X12_operand_50 (tgt := 54) (q := 53) (by decide) rfl (fun h50 => ?_) (fun h => absurd h (by decide))
          refine zAloadN d_X12_operand_54 rfl rfl (q := 55) rfl ?_
          refine zCallVV d_X12_operand_55 ml_X12_221 k_X12_operand ki_X12_operand ks_X12_operand (ih (by omega) (d - 1) (by omega) _ (p + 1) n (yOkS_op hJ hpl)) rfl rfl sh_64 (by decide) rfl (by decide) (Nat.le_of_ble_eq_true rfl) (by decide) (by omega) zns100 (q := 58) rfl (fun w' hw' => ?_)
          obtain ⟨J3, rfl, hr3⟩ := hw'
          refine zSub [0, 1] rfl ?_
          have q1 : zAt T m p = 33 → (if zAt T m p = 33 then (3 : Int32) else 4) = 3 := fun z => if_pos z
          have q2 : ¬ zAt T m p = 33 → (if zAt T m p = 33 then (3 : Int32) else 4) = 4 := fun z => if_neg z
          have q3 : (if zAt T m p = 33 then (3 : Int32) else 4) = zRc (if zAt T m p = 33 then 4 else 5) := by split <;> decide
          have hg := (zOp_gd (T := T) r) (p + 1) hpl
          rcases hr3 with ⟨c1, e1, ok, ly⟩ | ⟨e1, bd⟩
          · have hg3 := hg.2.2 c1 e1
            have hok := ok.2.2.2
            have eR : zOp T m (r + 1) p = ((zOp T m r (p + 1)).1, some (c1 ++ [((if zAt T m p = 33 then 4 else 5), 0)])) := by rw [eT ec]; unfold zOpT; rw [e1]
            refine tail (zAt T m p) _ J3 (n + c1.length) ok.2.1.2.2.2 (by omega) q1 q2 ok.2.1.2.2.1 (Or.inl ⟨c1 ++ [((if zAt T m p = 33 then 4 else 5), 0)], by rw [eR], ?_, yLy_app (J1 := J3) ly (yAdd_ly (J := zup J3 64 (zup (J3 64) 24 (nI (6 - (r + 1))))) q3)⟩)
            rw [eR, List.length_append]
            exact yAdd_ok (n := n + c1.length) (J := zup J3 64 (zup (J3 64) 24 (nI (6 - (r + 1))))) ⟨yFrP_fld ok.1 (by decide), ok.2.1.1, ok.2.1.2.1, rfl, ok.2.1.2.2.2⟩ (by omega) hok
          · have eR : (zOp T m (r + 1) p).1 = (zOp T m r (p + 1)).1 ∧ ((zOp T m (r + 1) p).2 = none ∨ yDg T m (zOp T m (r + 1) p).1) := by
              rw [eT ec]
              unfold zOpT
              rcases e3 : (zOp T m r (p + 1)).2 with _ | c1
              · exact ⟨rfl, Or.inl rfl⟩
              · exact ⟨rfl, Or.inr (e1.resolve_left (by rw [e3]; exact fun z => by cases z))⟩
            obtain ⟨n', k4, -, k7, k8⟩ := yBdS_add (p := p) (n := n) (a := (if zAt T m p = 33 then 3 else 4)) (b := 0) bd (by omega) (by omega)
            refine tailB (zAt T m p) _ J3 n' k4 (by have := k7 hnp; omega) q1 q2 (fun x => Or.inr ⟨eR.2, ?_⟩)
            rw [eR.1]
            obtain ⟨b1, b2, p', n2, b3, b4, b5, b6, b7⟩ := bd
            have en : n2 = n' := (nI_eq (by omega) (by have := k7 hnp; omega)).mp (b4.symm.trans k4)
            subst en
            exact ⟨yFrP_add (yFrP_fld b1 (by decide)), b2, p', n2 + 1, b3, rfl, by omega, b6, by omega⟩
    · have hnn := h9
      obtain ⟨n40, n33, n45, ndg, nm1⟩ := zNm_sp hnn
      have hpl := zAt_in nm1
      have e5 : zOp T m (r + 1) p = (p + 1, some [(1, zNm (zAt T m p))]) := by rw [eS n40 (fun z => by rcases z with z | z; exact n33 z; exact n45 z)]; unfold zOpS; rw [if_neg ndg, if_neg hnn]
      refine zAloadN d_X12_operand_12 rfl rfl (q := 13) rfl ?_
      refine zIconst d_X12_operand_13 (v := 2) ic_2 (q := 14) rfl ?_
      refine zIloadN d_X12_operand_14 rfl rfl (q := 15) rfl ?_
      refine zCallSP d_X12_operand_15 ml_X12_214 k_X12_nameOf kt_X12_nameOf (sp_X12_nameOf (d := d - 1) (by omega) ) rfl rfl (Nat.le_of_ble_eq_true rfl) (by decide) (by omega) zns100 (q := 18) rfl ?_
      refine zCallVV d_X12_operand_18 ml_X12_210 k_X12_addStep ki_X12_addStep ks_X12_addStep (sp_X12_addStep (d := d - 1) (by omega) h25 (by omega) (by decide)) rfl rfl sh_64 (by decide) rfl (by decide) (Nat.le_of_ble_eq_true rfl) (by decide) (by omega) zns100 (q := 21) rfl (fun w' hw' => ?_)
      subst hw'
      refine zAloadN d_X12_operand_21 rfl rfl (q := 22) rfl ?_
      refine zDup d_X12_operand_22 rfl (q := 23) rfl ?_
      refine zGetI d_X12_operand_23 ff_X12_191 sh_64 (by decide) (q := 26) rfl ?_
      refine zIconst d_X12_operand_26 (v := 1) ic_1 (q := 27) rfl ?_
      refine zIadd d_X12_operand_27 (q := 28) rfl ?_
      rw [show (yAdd J n 2 (zNm (zAt T m p))) 64 22 + 1 = nI (p + 1) by show J 64 22 + 1 = _; rw [h22, nI_1]]
      refine zPutI d_X12_operand_28 ff_X12_191 rfl rfl rfl sh_64 (by decide) (q := 31) rfl ?_
      refine zGoto d_X12_operand_31 (q := 154) (by decide) ?_
      refine zVret d_X12_operand_154 rfl rfl ?_
      first
      | exact ⟨rfl, J1, rfl, hr1⟩
      | exact ⟨rfl, _, rfl, Or.inl ⟨[(1, zNm (zAt T m p))], by rw [e5], by rw [e5]; exact ⟨yFrP_fld (yFrP_add hJ.1) (by decide), ⟨rfl, h23, h24, rfl⟩, Nat.succ_le_succ hnp, hpl⟩, yAdd_ly (J := J) (by decide)⟩⟩
end S70

