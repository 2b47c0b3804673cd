theorem d_X12_odds_0 : decode (zmc m_X12_odds) 0 = .ok (.aload_n 0, 1) := by decide +kernel
theorem d_X12_odds_1 : decode (zmc m_X12_odds) 1 = .ok (.iload_n 1, 1) := by decide +kernel
theorem d_X12_odds_2 : decode (zmc m_X12_odds) 2 = .ok (.invokevirtual 261, 3) := by decide +kernel
theorem d_X12_odds_5 : decode (zmc m_X12_odds) 5 = .ok (.ifCond .eq 24, 3) := by decide +kernel
theorem d_X12_odds_8 : decode (zmc m_X12_odds) 8 = .ok (.aload_n 0, 1) := by decide +kernel
theorem d_X12_odds_9 : decode (zmc m_X12_odds) 9 = .ok (.iload_n 1, 1) := by decide +kernel
theorem d_X12_odds_10 : decode (zmc m_X12_odds) 10 = .ok (.bipush 10, 2) := by decide +kernel
theorem d_X12_odds_12 : decode (zmc m_X12_odds) 12 = .ok (.idiv, 1) := by decide +kernel
theorem d_X12_odds_13 : decode (zmc m_X12_odds) 13 = .ok (.iload_n 1, 1) := by decide +kernel
theorem d_X12_odds_14 : decode (zmc m_X12_odds) 14 = .ok (.bipush 10, 2) := by decide +kernel
theorem d_X12_odds_16 : decode (zmc m_X12_odds) 16 = .ok (.irem, 1) := by decide +kernel
theorem d_X12_odds_17 : decode (zmc m_X12_odds) 17 = .ok (.aload_n 0, 1) := by decide +kernel
theorem d_X12_odds_18 : decode (zmc m_X12_odds) 18 = .ok (.getfield 39, 3) := by decide +kernel
theorem d_X12_odds_21 : decode (zmc m_X12_odds) 21 = .ok (.iconst 0, 1) := by decide +kernel
theorem d_X12_odds_22 : decode (zmc m_X12_odds) 22 = .ok (.iaload, 1) := by decide +kernel
theorem d_X12_odds_23 : decode (zmc m_X12_odds) 23 = .ok (.invokevirtual 264, 3) := by decide +kernel
theorem d_X12_odds_26 : decode (zmc m_X12_odds) 26 = .ok (.goto 4, 3) := by decide +kernel
theorem d_X12_odds_29 : decode (zmc m_X12_odds) 29 = .ok (.iconst (-1), 1) := by decide +kernel
theorem d_X12_odds_30 : decode (zmc m_X12_odds) 30 = .ok (.ireturn, 1) := by decide +kernel
theorem d_X12_oddsBy_0 : decode (zmc m_X12_oddsBy) 0 = .ok (.aload_n 0, 1) := by decide +kernel
theorem d_X12_oddsBy_1 : decode (zmc m_X12_oddsBy) 1 = .ok (.getfield 9, 3) := by decide +kernel
theorem d_X12_oddsBy_4 : decode (zmc m_X12_oddsBy) 4 = .ok (.iload_n 1, 1) := by decide +kernel
theorem d_X12_oddsBy_5 : decode (zmc m_X12_oddsBy) 5 = .ok (.iaload, 1) := by decide +kernel
theorem d_X12_oddsBy_6 : decode (zmc m_X12_oddsBy) 6 = .ok (.bipush 8, 2) := by decide +kernel
theorem d_X12_oddsBy_8 : decode (zmc m_X12_oddsBy) 8 = .ok (.idiv, 1) := by decide +kernel
theorem d_X12_oddsBy_9 : decode (zmc m_X12_oddsBy) 9 = .ok (.istore 4, 2) := by decide +kernel
theorem d_X12_oddsBy_11 : decode (zmc m_X12_oddsBy) 11 = .ok (.bipush 6, 2) := by decide +kernel
theorem d_X12_oddsBy_13 : decode (zmc m_X12_oddsBy) 13 = .ok (.aload_n 0, 1) := by decide +kernel
theorem d_X12_oddsBy_14 : decode (zmc m_X12_oddsBy) 14 = .ok (.getfield 30, 3) := by decide +kernel
theorem d_X12_oddsBy_17 : decode (zmc m_X12_oddsBy) 17 = .ok (.iload_n 2, 1) := by decide +kernel
theorem d_X12_oddsBy_18 : decode (zmc m_X12_oddsBy) 18 = .ok (.iaload, 1) := by decide +kernel
theorem d_X12_oddsBy_19 : decode (zmc m_X12_oddsBy) 19 = .ok (.iconst 2, 1) := by decide +kernel
theorem d_X12_oddsBy_20 : decode (zmc m_X12_oddsBy) 20 = .ok (.idiv, 1) := by decide +kernel
theorem d_X12_oddsBy_21 : decode (zmc m_X12_oddsBy) 21 = .ok (.iadd, 1) := by decide +kernel
theorem d_X12_oddsBy_22 : decode (zmc m_X12_oddsBy) 22 = .ok (.aload_n 0, 1) := by decide +kernel
theorem d_X12_oddsBy_23 : decode (zmc m_X12_oddsBy) 23 = .ok (.getfield 18, 3) := by decide +kernel
theorem d_X12_oddsBy_26 : decode (zmc m_X12_oddsBy) 26 = .ok (.iload_n 1, 1) := by decide +kernel
theorem d_X12_oddsBy_27 : decode (zmc m_X12_oddsBy) 27 = .ok (.iaload, 1) := by decide +kernel
theorem d_X12_oddsBy_28 : decode (zmc m_X12_oddsBy) 28 = .ok (.iconst 3, 1) := by decide +kernel
theorem d_X12_oddsBy_29 : decode (zmc m_X12_oddsBy) 29 = .ok (.idiv, 1) := by decide +kernel
theorem d_X12_oddsBy_30 : decode (zmc m_X12_oddsBy) 30 = .ok (.iadd, 1) := by decide +kernel
theorem d_X12_oddsBy_31 : decode (zmc m_X12_oddsBy) 31 = .ok (.aload_n 0, 1) := by decide +kernel
theorem d_X12_oddsBy_32 : decode (zmc m_X12_oddsBy) 32 = .ok (.getfield 15, 3) := by decide +kernel
theorem d_X12_oddsBy_35 : decode (zmc m_X12_oddsBy) 35 = .ok (.iload_n 1, 1) := by decide +kernel
theorem d_X12_oddsBy_36 : decode (zmc m_X12_oddsBy) 36 = .ok (.iaload, 1) := by decide +kernel
theorem d_X12_oddsBy_37 : decode (zmc m_X12_oddsBy) 37 = .ok (.iconst 3, 1) := by decide +kernel
theorem d_X12_oddsBy_38 : decode (zmc m_X12_oddsBy) 38 = .ok (.idiv, 1) := by decide +kernel
theorem d_X12_oddsBy_39 : decode (zmc m_X12_oddsBy) 39 = .ok (.isub, 1) := by decide +kernel
theorem d_X12_oddsBy_40 : decode (zmc m_X12_oddsBy) 40 = .ok (.iload 4, 2) := by decide +kernel
theorem d_X12_oddsBy_42 : decode (zmc m_X12_oddsBy) 42 = .ok (.iconst 2, 1) := by decide +kernel
theorem d_X12_oddsBy_43 : decode (zmc m_X12_oddsBy) 43 = .ok (.idiv, 1) := by decide +kernel
theorem d_X12_oddsBy_44 : decode (zmc m_X12_oddsBy) 44 = .ok (.isub, 1) := by decide +kernel
theorem d_X12_oddsBy_45 : decode (zmc m_X12_oddsBy) 45 = .ok (.istore 5, 2) := by decide +kernel
theorem d_X12_oddsBy_47 : decode (zmc m_X12_oddsBy) 47 = .ok (.aload_n 0, 1) := by decide +kernel
theorem d_X12_oddsBy_48 : decode (zmc m_X12_oddsBy) 48 = .ok (.getfield 254, 3) := by decide +kernel
theorem d_X12_oddsBy_51 : decode (zmc m_X12_oddsBy) 51 = .ok (.ifCond .eq 73, 3) := by decide +kernel
theorem d_X12_oddsBy_54 : decode (zmc m_X12_oddsBy) 54 = .ok (.aload_n 0, 1) := by decide +kernel
theorem d_X12_oddsBy_55 : decode (zmc m_X12_oddsBy) 55 = .ok (.getfield 74, 3) := by decide +kernel
theorem d_X12_oddsBy_58 : decode (zmc m_X12_oddsBy) 58 = .ok (.iconst 0, 1) := by decide +kernel
theorem d_X12_oddsBy_59 : decode (zmc m_X12_oddsBy) 59 = .ok (.aload_n 0, 1) := by decide +kernel
theorem d_X12_oddsBy_60 : decode (zmc m_X12_oddsBy) 60 = .ok (.getfield 30, 3) := by decide +kernel
theorem d_X12_oddsBy_63 : decode (zmc m_X12_oddsBy) 63 = .ok (.iload_n 2, 1) := by decide +kernel
theorem d_X12_oddsBy_64 : decode (zmc m_X12_oddsBy) 64 = .ok (.iaload, 1) := by decide +kernel
theorem d_X12_oddsBy_65 : decode (zmc m_X12_oddsBy) 65 = .ok (.iastore, 1) := by decide +kernel
theorem d_X12_oddsBy_66 : decode (zmc m_X12_oddsBy) 66 = .ok (.aload_n 0, 1) := by decide +kernel
theorem d_X12_oddsBy_67 : decode (zmc m_X12_oddsBy) 67 = .ok (.getfield 74, 3) := by decide +kernel
theorem d_X12_oddsBy_70 : decode (zmc m_X12_oddsBy) 70 = .ok (.iconst 1, 1) := by decide +kernel
theorem d_X12_oddsBy_71 : decode (zmc m_X12_oddsBy) 71 = .ok (.aload_n 0, 1) := by decide +kernel
theorem d_X12_oddsBy_72 : decode (zmc m_X12_oddsBy) 72 = .ok (.getfield 18, 3) := by decide +kernel
theorem d_X12_oddsBy_75 : decode (zmc m_X12_oddsBy) 75 = .ok (.iload_n 1, 1) := by decide +kernel
theorem d_X12_oddsBy_76 : decode (zmc m_X12_oddsBy) 76 = .ok (.iaload, 1) := by decide +kernel
theorem d_X12_oddsBy_77 : decode (zmc m_X12_oddsBy) 77 = .ok (.iastore, 1) := by decide +kernel
theorem d_X12_oddsBy_78 : decode (zmc m_X12_oddsBy) 78 = .ok (.aload_n 0, 1) := by decide +kernel
theorem d_X12_oddsBy_79 : decode (zmc m_X12_oddsBy) 79 = .ok (.getfield 74, 3) := by decide +kernel
theorem d_X12_oddsBy_82 : decode (zmc m_X12_oddsBy) 82 = .ok (.iconst 2, 1) := by decide +kernel
theorem d_X12_oddsBy_83 : decode (zmc m_X12_oddsBy) 83 = .ok (.aload_n 0, 1) := by decide +kernel
theorem d_X12_oddsBy_84 : decode (zmc m_X12_oddsBy) 84 = .ok (.getfield 15, 3) := by decide +kernel
theorem d_X12_oddsBy_87 : decode (zmc m_X12_oddsBy) 87 = .ok (.iload_n 1, 1) := by decide +kernel
theorem d_X12_oddsBy_88 : decode (zmc m_X12_oddsBy) 88 = .ok (.iaload, 1) := by decide +kernel
theorem d_X12_oddsBy_89 : decode (zmc m_X12_oddsBy) 89 = .ok (.iastore, 1) := by decide +kernel
theorem d_X12_oddsBy_90 : decode (zmc m_X12_oddsBy) 90 = .ok (.aload_n 0, 1) := by decide +kernel
theorem d_X12_oddsBy_91 : decode (zmc m_X12_oddsBy) 91 = .ok (.getfield 74, 3) := by decide +kernel
theorem d_X12_oddsBy_94 : decode (zmc m_X12_oddsBy) 94 = .ok (.iconst 3, 1) := by decide +kernel
theorem d_X12_oddsBy_95 : decode (zmc m_X12_oddsBy) 95 = .ok (.iload 4, 2) := by decide +kernel
theorem d_X12_oddsBy_97 : decode (zmc m_X12_oddsBy) 97 = .ok (.iastore, 1) := by decide +kernel
theorem d_X12_oddsBy_98 : decode (zmc m_X12_oddsBy) 98 = .ok (.aload_n 0, 1) := by decide +kernel
theorem d_X12_oddsBy_99 : decode (zmc m_X12_oddsBy) 99 = .ok (.getfield 74, 3) := by decide +kernel
theorem d_X12_oddsBy_102 : decode (zmc m_X12_oddsBy) 102 = .ok (.iconst 4, 1) := by decide +kernel
theorem d_X12_oddsBy_103 : decode (zmc m_X12_oddsBy) 103 = .ok (.aload_n 0, 1) := by decide +kernel
theorem d_X12_oddsBy_104 : decode (zmc m_X12_oddsBy) 104 = .ok (.getfield 21, 3) := by decide +kernel
theorem d_X12_oddsBy_107 : decode (zmc m_X12_oddsBy) 107 = .ok (.iload_n 1, 1) := by decide +kernel
theorem d_X12_oddsBy_108 : decode (zmc m_X12_oddsBy) 108 = .ok (.iaload, 1) := by decide +kernel
theorem d_X12_oddsBy_109 : decode (zmc m_X12_oddsBy) 109 = .ok (.iastore, 1) := by decide +kernel
theorem d_X12_oddsBy_110 : decode (zmc m_X12_oddsBy) 110 = .ok (.aload_n 0, 1) := by decide +kernel
theorem d_X12_oddsBy_111 : decode (zmc m_X12_oddsBy) 111 = .ok (.getfield 74, 3) := by decide +kernel
theorem d_X12_oddsBy_114 : decode (zmc m_X12_oddsBy) 114 = .ok (.iconst 5, 1) := by decide +kernel
theorem d_X12_oddsBy_115 : decode (zmc m_X12_oddsBy) 115 = .ok (.iload_n 3, 1) := by decide +kernel
theorem d_X12_oddsBy_116 : decode (zmc m_X12_oddsBy) 116 = .ok (.iastore, 1) := by decide +kernel
theorem d_X12_oddsBy_117 : decode (zmc m_X12_oddsBy) 117 = .ok (.aload_n 0, 1) := by decide +kernel
theorem d_X12_oddsBy_118 : decode (zmc m_X12_oddsBy) 118 = .ok (.iconst 0, 1) := by decide +kernel
theorem d_X12_oddsBy_119 : decode (zmc m_X12_oddsBy) 119 = .ok (.invokevirtual 258, 3) := by decide +kernel
theorem d_X12_oddsBy_122 : decode (zmc m_X12_oddsBy) 122 = .ok (.istore 5, 2) := by decide +kernel
theorem d_X12_oddsBy_124 : decode (zmc m_X12_oddsBy) 124 = .ok (.iload 5, 2) := by decide +kernel
theorem d_X12_oddsBy_126 : decode (zmc m_X12_oddsBy) 126 = .ok (.ifCond .ge 7, 3) := by decide +kernel
theorem d_X12_oddsBy_129 : decode (zmc m_X12_oddsBy) 129 = .ok (.iconst 0, 1) := by decide +kernel
theorem d_X12_oddsBy_130 : decode (zmc m_X12_oddsBy) 130 = .ok (.goto 17, 3) := by decide +kernel
theorem d_X12_oddsBy_133 : decode (zmc m_X12_oddsBy) 133 = .ok (.iload 5, 2) := by decide +kernel
theorem d_X12_oddsBy_135 : decode (zmc m_X12_oddsBy) 135 = .ok (.bipush 12, 2) := by decide +kernel
theorem d_X12_oddsBy_137 : decode (zmc m_X12_oddsBy) 137 = .ok (.if_icmp .le 8, 3) := by decide +kernel
theorem d_X12_oddsBy_140 : decode (zmc m_X12_oddsBy) 140 = .ok (.bipush 12, 2) := by decide +kernel
theorem d_X12_oddsBy_142 : decode (zmc m_X12_oddsBy) 142 = .ok (.goto 5, 3) := by decide +kernel
theorem d_X12_oddsBy_145 : decode (zmc m_X12_oddsBy) 145 = .ok (.iload 5, 2) := by decide +kernel
theorem d_X12_oddsBy_147 : decode (zmc m_X12_oddsBy) 147 = .ok (.ireturn, 1) := by decide +kernel
/-! THE REFERENCE: odds -/
section S60
variable {g : zG} {l : Launch} {d : Nat} {I V : Nat → Nat → Int32} {L K : Nat → Nat → Int64} {fs : Nat × Nat × Option Nat} {ns nt nh nb : Nat} {pg : Option (List zLine)}
theorem sp_X12_oddsBy (hd : 4 ≤ d) (hM : zMs I V) (hl : zMl I pg) {s t : Nat} (hs : s < 10) (ht : t < 4) {m : Int32} : zSp g l d 100 m_X12_oddsBy [.ref 64, .int (nI s), .int (nI t), .int m] (zU I L fs) (zX (fun x w => x = zOdds pg (zEn V s t m) ∧ ∃ J, w = zU J L fs ∧ (∀ a, a ≠ 85 → a ≠ 86 → J a = I a))) := by
  obtain ⟨-, ⟨mc, mb, ms, ma, mu, mg, mf, mp, mn⟩, ⟨mm, md, mz⟩, ml⟩ := hM
  have clmp : ∀ z : Int32, (z < 0 → zClmp z = 0) ∧ (¬ z < 0 → 12 < z → zClmp z = 12) ∧ (¬ z < 0 → ¬ 12 < z → zClmp z = z) := by
    intro z; unfold zClmp; grind
  cases pg with
  | none =>
    have h33 : I 64 33 = 0 := hl
    have ez : zOdds none (zEn V s t m) = zClmp (6 + V 9 t / 2 + V 5 s / 3 - V 4 s / 3 - V 3 s / 8 / 2) := rfl
    rw [ez]
    obtain ⟨z, hz⟩ : ∃ z, z = 6 + V 9 t / 2 + V 5 s / 3 - V 4 s / 3 - V 3 s / 8 / 2 := ⟨_, rfl⟩
    rw [← hz]
    refine zSp_of (lv := [(0, .ref 64), (1, .int (nI s)), (2, .int (nI t)), (3, .int m)]) k_X12_oddsBy rfl (Nat.le_of_ble_eq_true rfl) ?_
    refine zAloadN d_X12_oddsBy_0 rfl rfl (q := 1) rfl ?_
    refine zGetR d_X12_oddsBy_1 ff_X12_9 sh_64 (by decide) r_64_2 (q := 4) rfl ?_
    refine zIloadN d_X12_oddsBy_4 rfl rfl (q := 5) rfl ?_
    refine zIald d_X12_oddsBy_5 sh_65 (by decide) rfl hs (q := 6) rfl ?_
    refine zBipush d_X12_oddsBy_6 (v := 8) bc_8 (q := 8) rfl ?_
    refine zIdiv d_X12_oddsBy_8 (by decide) (q := 9) rfl ?_
    refine zIstore d_X12_oddsBy_9 (by decide) rfl (q := 11) rfl ?_
    refine zBipush d_X12_oddsBy_11 (v := 6) bc_6 (q := 13) rfl ?_
    refine zAloadN d_X12_oddsBy_13 rfl rfl (q := 14) rfl ?_
    refine zGetR d_X12_oddsBy_14 ff_X12_30 sh_64 (by decide) r_64_9 (q := 17) rfl ?_
    refine zIloadN d_X12_oddsBy_17 rfl rfl (q := 18) rfl ?_
    refine zIald d_X12_oddsBy_18 sh_71 (by decide) rfl ht (q := 19) rfl ?_
    refine zIconst d_X12_oddsBy_19 (v := 2) ic_2 (q := 20) rfl ?_
    refine zIdiv d_X12_oddsBy_20 (by decide) (q := 21) rfl ?_
    refine zIadd d_X12_oddsBy_21 (q := 22) rfl ?_
    refine zAloadN d_X12_oddsBy_22 rfl rfl (q := 23) rfl ?_
    refine zGetR d_X12_oddsBy_23 ff_X12_18 sh_64 (by decide) r_64_4 (q := 26) rfl ?_
    refine zIloadN d_X12_oddsBy_26 rfl rfl (q := 27) rfl ?_
    refine zIald d_X12_oddsBy_27 sh_67 (by decide) rfl hs (q := 28) rfl ?_
    refine zIconst d_X12_oddsBy_28 (v := 3) ic_3 (q := 29) rfl ?_
    refine zIdiv d_X12_oddsBy_29 (by decide) (q := 30) rfl ?_
    refine zIadd d_X12_oddsBy_30 (q := 31) rfl ?_
    refine zAloadN d_X12_oddsBy_31 rfl rfl (q := 32) rfl ?_
    refine zGetR d_X12_oddsBy_32 ff_X12_15 sh_64 (by decide) r_64_3 (q := 35) rfl ?_
    refine zIloadN d_X12_oddsBy_35 rfl rfl (q := 36) rfl ?_
    refine zIald d_X12_oddsBy_36 sh_66 (by decide) rfl hs (q := 37) rfl ?_
    refine zIconst d_X12_oddsBy_37 (v := 3) ic_3 (q := 38) rfl ?_
    refine zIdiv d_X12_oddsBy_38 (by decide) (q := 39) rfl ?_
    refine zIsub d_X12_oddsBy_39 (q := 40) rfl ?_
    refine zIload d_X12_oddsBy_40 rfl (q := 42) rfl ?_
    refine zIconst d_X12_oddsBy_42 (v := 2) ic_2 (q := 43) rfl ?_
    refine zIdiv d_X12_oddsBy_43 (by decide) (q := 44) rfl ?_
    refine zIsub d_X12_oddsBy_44 (q := 45) rfl ?_
    rw [mc, mf, ms, mb, show 6 + V 9 t / 2 + V 5 s / 3 - V 4 s / 3 - V 3 s / 8 / 2 = z from hz.symm]
    refine zIstore d_X12_oddsBy_45 (by decide) rfl (q := 47) rfl ?_
    refine zAloadN d_X12_oddsBy_47 rfl rfl (q := 48) rfl ?_
    refine zGetI d_X12_oddsBy_48 ff_X12_254 sh_64 (by decide) (q := 51) rfl ?_
    refine zIf_eq d_X12_oddsBy_51 (tgt := 124) (q := 54) (by decide) rfl (fun h51 => ?_) (fun h => absurd h33 h)
    refine zIload d_X12_oddsBy_124 rfl (q := 126) rfl ?_
    refine zIf_ge d_X12_oddsBy_126 (tgt := 133) (q := 129) (by decide) rfl (fun h126 => ?_) (fun h126 => ?_)
    · refine zIload d_X12_oddsBy_133 rfl (q := 135) rfl ?_
      refine zBipush d_X12_oddsBy_135 (v := 12) bc_12 (q := 137) rfl ?_
      refine zIcmp_le d_X12_oddsBy_137 (tgt := 145) (q := 140) (by decide) rfl (fun h137 => ?_) (fun h137 => ?_)
      · refine zIload d_X12_oddsBy_145 rfl (q := 147) rfl ?_
        refine zIret d_X12_oddsBy_147 rfl rfl rfl ?_
        refine ⟨_, rfl, ?_, I, rfl, fun _ _ _ => rfl⟩
        first
        | exact ((clmp z).1 (by grind)).symm
        | exact ((clmp z).2.1 (by grind) (by grind)).symm
        | exact ((clmp z).2.2 (by grind) (by grind)).symm
      · refine zBipush d_X12_oddsBy_140 (v := 12) bc_12 (q := 142) rfl ?_
        refine zGoto d_X12_oddsBy_142 (q := 147) (by decide) ?_
        refine zIret d_X12_oddsBy_147 rfl rfl rfl ?_
        refine ⟨_, rfl, ?_, I, rfl, fun _ _ _ => rfl⟩
        first
        | exact ((clmp z).1 (by grind)).symm
        | exact ((clmp z).2.1 (by grind) (by grind)).symm
        | exact ((clmp z).2.2 (by grind) (by grind)).symm
    · refine zIconst d_X12_oddsBy_129 (v := 0) ic_0 (q := 130) rfl ?_
      refine zGoto d_X12_oddsBy_130 (q := 147) (by decide) ?_
      refine zIret d_X12_oddsBy_147 rfl rfl rfl ?_
      refine ⟨_, rfl, ?_, I, rfl, fun _ _ _ => rfl⟩
      first
      | exact ((clmp z).1 (by grind)).symm
      | exact ((clmp z).2.1 (by grind) (by grind)).symm
      | exact ((clmp z).2.2 (by grind) (by grind)).symm
  | some ls =>
    obtain ⟨h33, h82, h61, htot, hls, hwf⟩ : I 64 33 = 1 ∧ I 82 0 = nI ls.length ∧ ls.length ≤ 61 ∧ zTot ls ≤ 130 ∧ zLs (I 80) (I 81) (I 83) (I 84) 0 0 0 ls ∧ ∀ x ∈ ls, zWfL x := hl
    have ez : zOdds (some ls) (zEn V s t m) = zClmp (zEvL (zEn V s t m) ls) := rfl
    obtain ⟨N, hN⟩ : ∃ N : Nat → Int32, N = zup (zup (zup (zup (zup (zup (I 85) 0 (V 9 t)) 1 (V 5 s)) 2 (V 4 s)) 3 (V 3 s / 8)) 4 (V 6 s)) 5 m := ⟨_, rfl⟩
    have hN6 : ∀ k, k < 6 → N k = zEn V s t m k := by
      intro k hk
      rw [hN]
      match k, hk with
      | 0, _ => rfl
      | 1, _ => rfl
      | 2, _ => rfl
      | 3, _ => rfl
      | 4, _ => rfl
      | 5, _ => rfl
    rw [ez, ← zEvL_congr hN6 ls hwf]
    refine zSp_of (lv := [(0, .ref 64), (1, .int (nI s)), (2, .int (nI t)), (3, .int m)]) k_X12_oddsBy rfl (Nat.le_of_ble_eq_true rfl) ?_
    refine zAloadN d_X12_oddsBy_0 rfl rfl (q := 1) rfl ?_
    refine zGetR d_X12_oddsBy_1 ff_X12_9 sh_64 (by decide) r_64_2 (q := 4) rfl ?_
    refine zIloadN d_X12_oddsBy_4 rfl rfl (q := 5) rfl ?_
    refine zIald d_X12_oddsBy_5 sh_65 (by decide) rfl hs (q := 6) rfl ?_
    refine zBipush d_X12_oddsBy_6 (v := 8) bc_8 (q := 8) rfl ?_
    refine zIdiv d_X12_oddsBy_8 (by decide) (q := 9) rfl ?_
    rw [mc]
    refine zIstore d_X12_oddsBy_9 (by decide) rfl (q := 11) rfl ?_
    refine zBipush d_X12_oddsBy_11 (v := 6) bc_6 (q := 13) rfl ?_
    refine zAloadN d_X12_oddsBy_13 rfl rfl (q := 14) rfl ?_
    refine zGetR d_X12_oddsBy_14 ff_X12_30 sh_64 (by decide) r_64_9 (q := 17) rfl ?_
    refine zIloadN d_X12_oddsBy_17 rfl rfl (q := 18) rfl ?_
    refine zIald d_X12_oddsBy_18 sh_71 (by decide) rfl ht (q := 19) rfl ?_
    refine zIconst d_X12_oddsBy_19 (v := 2) ic_2 (q := 20) rfl ?_
    refine zIdiv d_X12_oddsBy_20 (by decide) (q := 21) rfl ?_
    refine zIadd d_X12_oddsBy_21 (q := 22) rfl ?_
    refine zAloadN d_X12_oddsBy_22 rfl rfl (q := 23) rfl ?_
    refine zGetR d_X12_oddsBy_23 ff_X12_18 sh_64 (by decide) r_64_4 (q := 26) rfl ?_
    refine zIloadN d_X12_oddsBy_26 rfl rfl (q := 27) rfl ?_
    refine zIald d_X12_oddsBy_27 sh_67 (by decide) rfl hs (q := 28) rfl ?_
    refine zIconst d_X12_oddsBy_28 (v := 3) ic_3 (q := 29) rfl ?_
    refine zIdiv d_X12_oddsBy_29 (by decide) (q := 30) rfl ?_
    refine zIadd d_X12_oddsBy_30 (q := 31) rfl ?_
    refine zAloadN d_X12_oddsBy_31 rfl rfl (q := 32) rfl ?_
    refine zGetR d_X12_oddsBy_32 ff_X12_15 sh_64 (by decide) r_64_3 (q := 35) rfl ?_
    refine zIloadN d_X12_oddsBy_35 rfl rfl (q := 36) rfl ?_
    refine zIald d_X12_oddsBy_36 sh_66 (by decide) rfl hs (q := 37) rfl ?_
    refine zIconst d_X12_oddsBy_37 (v := 3) ic_3 (q := 38) rfl ?_
    refine zIdiv d_X12_oddsBy_38 (by decide) (q := 39) rfl ?_
    refine zIsub d_X12_oddsBy_39 (q := 40) rfl ?_
    refine zIload d_X12_oddsBy_40 rfl (q := 42) rfl ?_
    refine zIconst d_X12_oddsBy_42 (v := 2) ic_2 (q := 43) rfl ?_
    refine zIdiv d_X12_oddsBy_43 (by decide) (q := 44) rfl ?_
    refine zIsub d_X12_oddsBy_44 (q := 45) rfl ?_
    refine zIstore d_X12_oddsBy_45 (by decide) rfl (q := 47) rfl ?_
    refine zAloadN d_X12_oddsBy_47 rfl rfl (q := 48) rfl ?_
    refine zGetI d_X12_oddsBy_48 ff_X12_254 sh_64 (by decide) (q := 51) rfl ?_
    refine zIf_eq d_X12_oddsBy_51 (tgt := 124) (q := 54) (by decide) rfl (fun h => absurd h (by rw [h33]; decide)) (fun h51 => ?_)
    refine zAloadN d_X12_oddsBy_54 rfl rfl (q := 55) rfl ?_
    refine zGetR d_X12_oddsBy_55 ff_X12_74 sh_64 (by decide) r_64_31 (q := 58) rfl ?_
    refine zIconst d_X12_oddsBy_58 (v := 0) ic_0 (q := 59) rfl ?_
    refine zAloadN d_X12_oddsBy_59 rfl rfl (q := 60) rfl ?_
    refine zGetR d_X12_oddsBy_60 ff_X12_30 sh_64 (by decide) r_64_9 (q := 63) rfl ?_
    refine zIloadN d_X12_oddsBy_63 rfl rfl (q := 64) rfl ?_
    refine zIald d_X12_oddsBy_64 sh_71 (by decide) rfl ht (q := 65) rfl ?_
    rw [mf]
    refine zIast d_X12_oddsBy_65 sh_85 (by decide) (j := 0) rfl (by decide) (q := 66) rfl ?_
    refine zAloadN d_X12_oddsBy_66 rfl rfl (q := 67) rfl ?_
    refine zGetR d_X12_oddsBy_67 ff_X12_74 sh_64 (by decide) r_64_31 (q := 70) rfl ?_
    refine zIconst d_X12_oddsBy_70 (v := 1) ic_1 (q := 71) rfl ?_
    refine zAloadN d_X12_oddsBy_71 rfl rfl (q := 72) rfl ?_
    refine zGetR d_X12_oddsBy_72 ff_X12_18 sh_64 (by decide) r_64_4 (q := 75) rfl ?_
    refine zIloadN d_X12_oddsBy_75 rfl rfl (q := 76) rfl ?_
    refine zIald d_X12_oddsBy_76 sh_67 (by decide) rfl hs (q := 77) rfl ?_
    rw [show (zup I 85 (zup (I 85) 0 (V 9 t))) 67 s = V 5 s from congrFun ms s]
    refine zIast d_X12_oddsBy_77 sh_85 (by decide) (j := 1) rfl (by decide) (q := 78) rfl ?_
    rw [zup_zup, zup_eq]
    refine zAloadN d_X12_oddsBy_78 rfl rfl (q := 79) rfl ?_
    refine zGetR d_X12_oddsBy_79 ff_X12_74 sh_64 (by decide) r_64_31 (q := 82) rfl ?_
    refine zIconst d_X12_oddsBy_82 (v := 2) ic_2 (q := 83) rfl ?_
    refine zAloadN d_X12_oddsBy_83 rfl rfl (q := 84) rfl ?_
    refine zGetR d_X12_oddsBy_84 ff_X12_15 sh_64 (by decide) r_64_3 (q := 87) rfl ?_
    refine zIloadN d_X12_oddsBy_87 rfl rfl (q := 88) rfl ?_
    refine zIald d_X12_oddsBy_88 sh_66 (by decide) rfl hs (q := 89) rfl ?_
    rw [show ∀ f, (zup I 85 f) 66 s = V 4 s from fun _ => congrFun mb s]
    refine zIast d_X12_oddsBy_89 sh_85 (by decide) (j := 2) rfl (by decide) (q := 90) rfl ?_
    rw [zup_zup, zup_eq]
    refine zAloadN d_X12_oddsBy_90 rfl rfl (q := 91) rfl ?_
    refine zGetR d_X12_oddsBy_91 ff_X12_74 sh_64 (by decide) r_64_31 (q := 94) rfl ?_
    refine zIconst d_X12_oddsBy_94 (v := 3) ic_3 (q := 95) rfl ?_
    refine zIload d_X12_oddsBy_95 rfl (q := 97) rfl ?_
    refine zIast d_X12_oddsBy_97 sh_85 (by decide) (j := 3) rfl (by decide) (q := 98) rfl ?_
    rw [zup_zup, zup_eq]
    refine zAloadN d_X12_oddsBy_98 rfl rfl (q := 99) rfl ?_
    refine zGetR d_X12_oddsBy_99 ff_X12_74 sh_64 (by decide) r_64_31 (q := 102) rfl ?_
    refine zIconst d_X12_oddsBy_102 (v := 4) ic_4 (q := 103) rfl ?_
    refine zAloadN d_X12_oddsBy_103 rfl rfl (q := 104) rfl ?_
    refine zGetR d_X12_oddsBy_104 ff_X12_21 sh_64 (by decide) r_64_5 (q := 107) rfl ?_
    refine zIloadN d_X12_oddsBy_107 rfl rfl (q := 108) rfl ?_
    refine zIald d_X12_oddsBy_108 sh_68 (by decide) rfl hs (q := 109) rfl ?_
    rw [show ∀ f, (zup I 85 f) 68 s = V 6 s from fun _ => congrFun ma s]
    refine zIast d_X12_oddsBy_109 sh_85 (by decide) (j := 4) rfl (by decide) (q := 110) rfl ?_
    rw [zup_zup, zup_eq]
    refine zAloadN d_X12_oddsBy_110 rfl rfl (q := 111) rfl ?_
    refine zGetR d_X12_oddsBy_111 ff_X12_74 sh_64 (by decide) r_64_31 (q := 114) rfl ?_
    refine zIconst d_X12_oddsBy_114 (v := 5) ic_5 (q := 115) rfl ?_
    refine zIloadN d_X12_oddsBy_115 rfl rfl (q := 116) rfl ?_
    refine zIast d_X12_oddsBy_116 sh_85 (by decide) (j := 5) rfl (by decide) (q := 117) rfl ?_
    rw [zup_zup, zup_eq, ← hN]
    refine zAloadN d_X12_oddsBy_117 rfl rfl (q := 118) rfl ?_
    refine zIconst d_X12_oddsBy_118 (v := 0) ic_0 (q := 119) rfl ?_
    refine zCallVX d_X12_oddsBy_119 ml_X12_258 k_X12_gives ki_X12_gives ks_X12_gives (sp_X12_gives (d := d - 1) (by omega) (I := zup I 85 N) h82 h61 htot hls hwf) rfl rfl sh_64 (by decide) rfl (by decide) (Nat.le_of_ble_eq_true rfl) (by decide) (by omega) zns100 (q := 122) rfl (fun z w' hw' => ?_)
    obtain ⟨hz, F, rfl⟩ := hw'
    have hz : z = zEvL N ls := hz
    rw [← hz]
    refine zIstore d_X12_oddsBy_122 (by decide) rfl (q := 124) rfl ?_
    refine zIload d_X12_oddsBy_124 rfl (q := 126) rfl ?_
    refine zIf_ge d_X12_oddsBy_126 (tgt := 133) (q := 129) (by decide) rfl (fun h126 => ?_) (fun h126 => ?_)
    · refine zIload d_X12_oddsBy_133 rfl (q := 135) rfl ?_
      refine zBipush d_X12_oddsBy_135 (v := 12) bc_12 (q := 137) rfl ?_
      refine zIcmp_le d_X12_oddsBy_137 (tgt := 145) (q := 140) (by decide) rfl (fun h137 => ?_) (fun h137 => ?_)
      · refine zIload d_X12_oddsBy_145 rfl (q := 147) rfl ?_
        refine zIret d_X12_oddsBy_147 rfl rfl rfl ?_
        refine ⟨_, rfl, ?_, _, rfl, fun a h1 h2 => by rw [zup_ne h2, zup_ne h1]⟩
        first
        | exact ((clmp z).1 (by grind)).symm
        | exact ((clmp z).2.1 (by grind) (by grind)).symm
        | exact ((clmp z).2.2 (by grind) (by grind)).symm
      · refine zBipush d_X12_oddsBy_140 (v := 12) bc_12 (q := 142) rfl ?_
        refine zGoto d_X12_oddsBy_142 (q := 147) (by decide) ?_
        refine zIret d_X12_oddsBy_147 rfl rfl rfl ?_
        refine ⟨_, rfl, ?_, _, rfl, fun a h1 h2 => by rw [zup_ne h2, zup_ne h1]⟩
        first
        | exact ((clmp z).1 (by grind)).symm
        | exact ((clmp z).2.1 (by grind) (by grind)).symm
        | exact ((clmp z).2.2 (by grind) (by grind)).symm
    · refine zIconst d_X12_oddsBy_129 (v := 0) ic_0 (q := 130) rfl ?_
      refine zGoto d_X12_oddsBy_130 (q := 147) (by decide) ?_
      refine zIret d_X12_oddsBy_147 rfl rfl rfl ?_
      refine ⟨_, rfl, ?_, _, rfl, fun a h1 h2 => by rw [zup_ne h2, zup_ne h1]⟩
      first
      | exact ((clmp z).1 (by grind)).symm
      | exact ((clmp z).2.1 (by grind) (by grind)).symm
      | exact ((clmp z).2.2 (by grind) (by grind)).symm
theorem sp_X12_odds0 (hd : 4 ≤ d) (hM : zMs I V) (hK : zSky V ns nt nh) {st : Int32} (hc : ¬ zThr ns nt st) : zPure g l d m_X12_odds [.ref 64, .int st] I L fs (.int (-1)) := by
  refine zSp_of (lv := [(0, .ref 64), (1, .int st)]) k_X12_odds rfl (Nat.le_of_ble_eq_true rfl) ?_
  refine zAloadN d_X12_odds_0 rfl rfl (q := 1) rfl ?_
  refine zIloadN d_X12_odds_1 rfl rfl (q := 2) rfl ?_
  refine zCallVP d_X12_odds_2 ml_X12_261 k_X12_areStarThrower ki_X12_areStarThrower ks_X12_areStarThrower (sp_X12_areStarThrower (d := d - 1) (by omega) hM hK) rfl rfl sh_64 (by decide) rfl (by decide) (Nat.le_of_ble_eq_true rfl) (by decide) (by omega) zns100 (q := 5) rfl ?_
  refine zIf_eq d_X12_odds_5 (tgt := 29) (q := 8) (by decide) rfl (fun h5 => ?_) (fun h => absurd (bi_f hc) h)
  refine zIconst d_X12_odds_29 (v := -1) ic_m1 (q := 30) rfl ?_
  refine zIret d_X12_odds_30 rfl rfl rfl ?_
  exact zPi rfl
theorem sp_X12_odds (hd : 5 ≤ d) (hM : zMs I V) (hK : zSky V ns nt nh) (hl : zMl I pg) {st : Int32} (hc : zThr ns nt st) {s t : Nat} (hs : s < ns) (ht : t < nt) (e1 : st / 10 = nI s) (e2 : st - st / 10 * 10 = nI t) : zSp g l d 100 m_X12_odds [.ref 64, .int st] (zU I L fs) (zX (fun x w => x = zOdds pg (zEn V s t (V 12 0)) ∧ ∃ J, w = zU J L fs ∧ (∀ a, a ≠ 85 → a ≠ 86 → J a = I a))) := by
  have h10 := hK.2.1
  have h4 := hK.2.2.1
  refine zSp_of (lv := [(0, .ref 64), (1, .int st)]) k_X12_odds rfl (Nat.le_of_ble_eq_true rfl) ?_
  refine zAloadN d_X12_odds_0 rfl rfl (q := 1) rfl ?_
  refine zIloadN d_X12_odds_1 rfl rfl (q := 2) rfl ?_
  refine zCallVP d_X12_odds_2 ml_X12_261 k_X12_areStarThrower ki_X12_areStarThrower ks_X12_areStarThrower (sp_X12_areStarThrower (d := d - 1) (by omega) hM hK) rfl rfl sh_64 (by decide) rfl (by decide) (Nat.le_of_ble_eq_true rfl) (by decide) (by omega) zns100 (q := 5) rfl ?_
  refine zIf_eq d_X12_odds_5 (tgt := 29) (q := 8) (by decide) rfl (fun h => absurd h (bi_n0.mpr hc)) (fun h5 => ?_)
  refine zAloadN d_X12_odds_8 rfl rfl (q := 9) rfl ?_
  refine zIloadN d_X12_odds_9 rfl rfl (q := 10) rfl ?_
  refine zBipush d_X12_odds_10 (v := 10) bc_10 (q := 12) rfl ?_
  refine zIdiv d_X12_odds_12 (by decide) (q := 13) rfl ?_
  rw [e1]
  refine zIloadN d_X12_odds_13 rfl rfl (q := 14) rfl ?_
  refine zBipush d_X12_odds_14 (v := 10) bc_10 (q := 16) rfl ?_
  refine zIrem d_X12_odds_16 (by decide) (q := 17) rfl ?_
  rw [e2]
  refine zAloadN d_X12_odds_17 rfl rfl (q := 18) rfl ?_
  refine zGetR d_X12_odds_18 ff_X12_39 sh_64 (by decide) r_64_13 (q := 21) rfl ?_
  refine zIconst d_X12_odds_21 (v := 0) ic_0 (q := 22) rfl ?_
  refine zIald d_X12_odds_22 sh_74 (by decide) (j := 0) rfl (by decide) (q := 23) rfl ?_
  rw [hM.2.2.1.1]
  refine zCallVX d_X12_odds_23 ml_X12_264 k_X12_oddsBy ki_X12_oddsBy ks_X12_oddsBy (sp_X12_oddsBy (d := d - 1) (by omega) hM hl (by omega) (by omega)) rfl rfl sh_64 (by decide) rfl (by decide) (Nat.le_of_ble_eq_true rfl) (by decide) (by omega) zns100 (q := 26) rfl (fun x w' hw' => ?_)
  obtain ⟨rfl, J, rfl, hJ⟩ := hw'
  refine zGoto d_X12_odds_26 (q := 30) (by decide) ?_
  refine zIret d_X12_odds_30 rfl rfl rfl ?_
  exact ⟨_, rfl, rfl, J, rfl, hJ⟩
end S60

