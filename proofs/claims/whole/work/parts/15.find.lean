theorem d_X3_furthestRight_0 : decode (zmc m_X3_furthestRight) 0 = .ok (.iconst 0, 1) := by decide +kernel
theorem d_X3_furthestRight_1 : decode (zmc m_X3_furthestRight) 1 = .ok (.iload_n 1, 1) := by decide +kernel
theorem d_X3_furthestRight_2 : decode (zmc m_X3_furthestRight) 2 = .ok (.iconst 2, 1) := by decide +kernel
theorem d_X3_furthestRight_3 : decode (zmc m_X3_furthestRight) 3 = .ok (.iload_n 0, 1) := by decide +kernel
theorem d_X3_furthestRight_4 : decode (zmc m_X3_furthestRight) 4 = .ok (.imul, 1) := by decide +kernel
theorem d_X3_furthestRight_5 : decode (zmc m_X3_furthestRight) 5 = .ok (.isub, 1) := by decide +kernel
theorem d_X3_furthestRight_6 : decode (zmc m_X3_furthestRight) 6 = .ok (.iload_n 1, 1) := by decide +kernel
theorem d_X3_furthestRight_7 : decode (zmc m_X3_furthestRight) 7 = .ok (.iload_n 0, 1) := by decide +kernel
theorem d_X3_furthestRight_8 : decode (zmc m_X3_furthestRight) 8 = .ok (.isub, 1) := by decide +kernel
theorem d_X3_furthestRight_9 : decode (zmc m_X3_furthestRight) 9 = .ok (.iconst 2, 1) := by decide +kernel
theorem d_X3_furthestRight_10 : decode (zmc m_X3_furthestRight) 10 = .ok (.idiv, 1) := by decide +kernel
theorem d_X3_furthestRight_11 : decode (zmc m_X3_furthestRight) 11 = .ok (.invokestatic 36, 3) := by decide +kernel
theorem d_X3_furthestRight_14 : decode (zmc m_X3_furthestRight) 14 = .ok (.invokestatic 36, 3) := by decide +kernel
theorem d_X3_furthestRight_17 : decode (zmc m_X3_furthestRight) 17 = .ok (.ireturn, 1) := by decide +kernel
theorem d_X3_look_0 : decode (zmc m_X3_look) 0 = .ok (.aload_n 0, 1) := by decide +kernel
theorem d_X3_look_1 : decode (zmc m_X3_look) 1 = .ok (.invokevirtual 19, 3) := by decide +kernel
theorem d_X3_look_4 : decode (zmc m_X3_look) 4 = .ok (.aload_n 0, 1) := by decide +kernel
theorem d_X3_look_5 : decode (zmc m_X3_look) 5 = .ok (.iconst (-1), 1) := by decide +kernel
theorem d_X3_look_6 : decode (zmc m_X3_look) 6 = .ok (.putfield 22, 3) := by decide +kernel
theorem d_X3_look_9 : decode (zmc m_X3_look) 9 = .ok (.aload_n 0, 1) := by decide +kernel
theorem d_X3_look_10 : decode (zmc m_X3_look) 10 = .ok (.iconst 0, 1) := by decide +kernel
theorem d_X3_look_11 : decode (zmc m_X3_look) 11 = .ok (.putfield 26, 3) := by decide +kernel
theorem d_X3_look_14 : decode (zmc m_X3_look) 14 = .ok (.iconst 0, 1) := by decide +kernel
theorem d_X3_look_15 : decode (zmc m_X3_look) 15 = .ok (.istore_n 3, 1) := by decide +kernel
theorem d_X3_look_16 : decode (zmc m_X3_look) 16 = .ok (.iload_n 3, 1) := by decide +kernel
theorem d_X3_look_17 : decode (zmc m_X3_look) 17 = .ok (.iload_n 1, 1) := by decide +kernel
theorem d_X3_look_18 : decode (zmc m_X3_look) 18 = .ok (.if_icmp .gt 50, 3) := by decide +kernel
theorem d_X3_look_21 : decode (zmc m_X3_look) 21 = .ok (.iload_n 3, 1) := by decide +kernel
theorem d_X3_look_22 : decode (zmc m_X3_look) 22 = .ok (.iload_n 2, 1) := by decide +kernel
theorem d_X3_look_23 : decode (zmc m_X3_look) 23 = .ok (.if_icmp .gt 45, 3) := by decide +kernel
theorem d_X3_look_26 : decode (zmc m_X3_look) 26 = .ok (.aload_n 0, 1) := by decide +kernel
theorem d_X3_look_27 : decode (zmc m_X3_look) 27 = .ok (.iload_n 1, 1) := by decide +kernel
theorem d_X3_look_28 : decode (zmc m_X3_look) 28 = .ok (.iload_n 3, 1) := by decide +kernel
theorem d_X3_look_29 : decode (zmc m_X3_look) 29 = .ok (.isub, 1) := by decide +kernel
theorem d_X3_look_30 : decode (zmc m_X3_look) 30 = .ok (.iload_n 1, 1) := by decide +kernel
theorem d_X3_look_31 : decode (zmc m_X3_look) 31 = .ok (.iload_n 3, 1) := by decide +kernel
theorem d_X3_look_32 : decode (zmc m_X3_look) 32 = .ok (.iload_n 2, 1) := by decide +kernel
theorem d_X3_look_33 : decode (zmc m_X3_look) 33 = .ok (.invokestatic 29, 3) := by decide +kernel
theorem d_X3_look_36 : decode (zmc m_X3_look) 36 = .ok (.iadd, 1) := by decide +kernel
theorem d_X3_look_37 : decode (zmc m_X3_look) 37 = .ok (.invokevirtual 33, 3) := by decide +kernel
theorem d_X3_look_40 : decode (zmc m_X3_look) 40 = .ok (.istore 4, 2) := by decide +kernel
theorem d_X3_look_42 : decode (zmc m_X3_look) 42 = .ok (.iload 4, 2) := by decide +kernel
theorem d_X3_look_44 : decode (zmc m_X3_look) 44 = .ok (.aload_n 0, 1) := by decide +kernel
theorem d_X3_look_45 : decode (zmc m_X3_look) 45 = .ok (.getfield 22, 3) := by decide +kernel
theorem d_X3_look_48 : decode (zmc m_X3_look) 48 = .ok (.if_icmp .le 14, 3) := by decide +kernel
theorem d_X3_look_51 : decode (zmc m_X3_look) 51 = .ok (.aload_n 0, 1) := by decide +kernel
theorem d_X3_look_52 : decode (zmc m_X3_look) 52 = .ok (.iload 4, 2) := by decide +kernel
theorem d_X3_look_54 : decode (zmc m_X3_look) 54 = .ok (.putfield 22, 3) := by decide +kernel
theorem d_X3_look_57 : decode (zmc m_X3_look) 57 = .ok (.aload_n 0, 1) := by decide +kernel
theorem d_X3_look_58 : decode (zmc m_X3_look) 58 = .ok (.iload_n 3, 1) := by decide +kernel
theorem d_X3_look_59 : decode (zmc m_X3_look) 59 = .ok (.putfield 26, 3) := by decide +kernel
theorem d_X3_look_62 : decode (zmc m_X3_look) 62 = .ok (.iinc 3 1, 3) := by decide +kernel
theorem d_X3_look_65 : decode (zmc m_X3_look) 65 = .ok (.goto (-49), 3) := by decide +kernel
theorem d_X3_look_68 : decode (zmc m_X3_look) 68 = .ok (.return_, 1) := by decide +kernel
theorem d_X3_spread_0 : decode (zmc m_X3_spread) 0 = .ok (.iconst 0, 1) := by decide +kernel
theorem d_X3_spread_1 : decode (zmc m_X3_spread) 1 = .ok (.istore_n 1, 1) := by decide +kernel
theorem d_X3_spread_2 : decode (zmc m_X3_spread) 2 = .ok (.iload_n 1, 1) := by decide +kernel
theorem d_X3_spread_3 : decode (zmc m_X3_spread) 3 = .ok (.bipush 24, 2) := by decide +kernel
theorem d_X3_spread_5 : decode (zmc m_X3_spread) 5 = .ok (.if_icmp .ge 16, 3) := by decide +kernel
theorem d_X3_spread_8 : decode (zmc m_X3_spread) 8 = .ok (.aload_n 0, 1) := by decide +kernel
theorem d_X3_spread_9 : decode (zmc m_X3_spread) 9 = .ok (.getfield 9, 3) := by decide +kernel
theorem d_X3_spread_12 : decode (zmc m_X3_spread) 12 = .ok (.iload_n 1, 1) := by decide +kernel
theorem d_X3_spread_13 : decode (zmc m_X3_spread) 13 = .ok (.iconst 0, 1) := by decide +kernel
theorem d_X3_spread_14 : decode (zmc m_X3_spread) 14 = .ok (.iastore, 1) := by decide +kernel
theorem d_X3_spread_15 : decode (zmc m_X3_spread) 15 = .ok (.iinc 1 1, 3) := by decide +kernel
theorem d_X3_spread_18 : decode (zmc m_X3_spread) 18 = .ok (.goto (-16), 3) := by decide +kernel
theorem d_X3_spread_21 : decode (zmc m_X3_spread) 21 = .ok (.iconst 0, 1) := by decide +kernel
theorem d_X3_spread_22 : decode (zmc m_X3_spread) 22 = .ok (.istore_n 1, 1) := by decide +kernel
theorem d_X3_spread_23 : decode (zmc m_X3_spread) 23 = .ok (.iload_n 1, 1) := by decide +kernel
theorem d_X3_spread_24 : decode (zmc m_X3_spread) 24 = .ok (.aload_n 0, 1) := by decide +kernel
theorem d_X3_spread_25 : decode (zmc m_X3_spread) 25 = .ok (.getfield 15, 3) := by decide +kernel
theorem d_X3_spread_28 : decode (zmc m_X3_spread) 28 = .ok (.getfield 41, 3) := by decide +kernel
theorem d_X3_spread_31 : decode (zmc m_X3_spread) 31 = .ok (.if_icmp .ge 58, 3) := by decide +kernel
theorem d_X3_spread_34 : decode (zmc m_X3_spread) 34 = .ok (.aload_n 0, 1) := by decide +kernel
theorem d_X3_spread_35 : decode (zmc m_X3_spread) 35 = .ok (.getfield 15, 3) := by decide +kernel
theorem d_X3_spread_38 : decode (zmc m_X3_spread) 38 = .ok (.iload_n 1, 1) := by decide +kernel
theorem d_X3_spread_39 : decode (zmc m_X3_spread) 39 = .ok (.invokevirtual 46, 3) := by decide +kernel
theorem d_X3_spread_42 : decode (zmc m_X3_spread) 42 = .ok (.istore_n 2, 1) := by decide +kernel
theorem d_X3_spread_43 : decode (zmc m_X3_spread) 43 = .ok (.aload_n 0, 1) := by decide +kernel
theorem d_X3_spread_44 : decode (zmc m_X3_spread) 44 = .ok (.getfield 15, 3) := by decide +kernel
theorem d_X3_spread_47 : decode (zmc m_X3_spread) 47 = .ok (.iconst 4, 1) := by decide +kernel
theorem d_X3_spread_48 : decode (zmc m_X3_spread) 48 = .ok (.iload_n 1, 1) := by decide +kernel
theorem d_X3_spread_49 : decode (zmc m_X3_spread) 49 = .ok (.invokevirtual 50, 3) := by decide +kernel
theorem d_X3_spread_52 : decode (zmc m_X3_spread) 52 = .ok (.ifCond .eq 31, 3) := by decide +kernel
theorem d_X3_spread_55 : decode (zmc m_X3_spread) 55 = .ok (.iload_n 2, 1) := by decide +kernel
theorem d_X3_spread_56 : decode (zmc m_X3_spread) 56 = .ok (.ifCond .lt 27, 3) := by decide +kernel
theorem d_X3_spread_59 : decode (zmc m_X3_spread) 59 = .ok (.iload_n 2, 1) := by decide +kernel
theorem d_X3_spread_60 : decode (zmc m_X3_spread) 60 = .ok (.bipush 24, 2) := by decide +kernel
theorem d_X3_spread_62 : decode (zmc m_X3_spread) 62 = .ok (.if_icmp .ge 21, 3) := by decide +kernel
theorem d_X3_spread_65 : decode (zmc m_X3_spread) 65 = .ok (.aload_n 0, 1) := by decide +kernel
theorem d_X3_spread_66 : decode (zmc m_X3_spread) 66 = .ok (.getfield 9, 3) := by decide +kernel
theorem d_X3_spread_69 : decode (zmc m_X3_spread) 69 = .ok (.iload_n 2, 1) := by decide +kernel
theorem d_X3_spread_70 : decode (zmc m_X3_spread) 70 = .ok (.dup2, 1) := by decide +kernel
theorem d_X3_spread_71 : decode (zmc m_X3_spread) 71 = .ok (.iaload, 1) := by decide +kernel
theorem d_X3_spread_72 : decode (zmc m_X3_spread) 72 = .ok (.aload_n 0, 1) := by decide +kernel
theorem d_X3_spread_73 : decode (zmc m_X3_spread) 73 = .ok (.getfield 15, 3) := by decide +kernel
theorem d_X3_spread_76 : decode (zmc m_X3_spread) 76 = .ok (.iconst 1, 1) := by decide +kernel
theorem d_X3_spread_77 : decode (zmc m_X3_spread) 77 = .ok (.iload_n 1, 1) := by decide +kernel
theorem d_X3_spread_78 : decode (zmc m_X3_spread) 78 = .ok (.invokevirtual 50, 3) := by decide +kernel
theorem d_X3_spread_81 : decode (zmc m_X3_spread) 81 = .ok (.iadd, 1) := by decide +kernel
theorem d_X3_spread_82 : decode (zmc m_X3_spread) 82 = .ok (.iastore, 1) := by decide +kernel
theorem d_X3_spread_83 : decode (zmc m_X3_spread) 83 = .ok (.iinc 1 1, 3) := by decide +kernel
theorem d_X3_spread_86 : decode (zmc m_X3_spread) 86 = .ok (.goto (-63), 3) := by decide +kernel
theorem d_X3_spread_89 : decode (zmc m_X3_spread) 89 = .ok (.return_, 1) := by decide +kernel
theorem d_X3_sumOf_0 : decode (zmc m_X3_sumOf) 0 = .ok (.iconst 0, 1) := by decide +kernel
theorem d_X3_sumOf_1 : decode (zmc m_X3_sumOf) 1 = .ok (.istore_n 3, 1) := by decide +kernel
theorem d_X3_sumOf_2 : decode (zmc m_X3_sumOf) 2 = .ok (.iconst 0, 1) := by decide +kernel
theorem d_X3_sumOf_3 : decode (zmc m_X3_sumOf) 3 = .ok (.iload_n 1, 1) := by decide +kernel
theorem d_X3_sumOf_4 : decode (zmc m_X3_sumOf) 4 = .ok (.invokestatic 36, 3) := by decide +kernel
theorem d_X3_sumOf_7 : decode (zmc m_X3_sumOf) 7 = .ok (.istore 4, 2) := by decide +kernel
theorem d_X3_sumOf_9 : decode (zmc m_X3_sumOf) 9 = .ok (.iload 4, 2) := by decide +kernel
theorem d_X3_sumOf_11 : decode (zmc m_X3_sumOf) 11 = .ok (.iload_n 2, 1) := by decide +kernel
theorem d_X3_sumOf_12 : decode (zmc m_X3_sumOf) 12 = .ok (.if_icmp .gt 26, 3) := by decide +kernel
theorem d_X3_sumOf_15 : decode (zmc m_X3_sumOf) 15 = .ok (.iload 4, 2) := by decide +kernel
theorem d_X3_sumOf_17 : decode (zmc m_X3_sumOf) 17 = .ok (.bipush 24, 2) := by decide +kernel
theorem d_X3_sumOf_19 : decode (zmc m_X3_sumOf) 19 = .ok (.if_icmp .ge 19, 3) := by decide +kernel
theorem d_X3_sumOf_22 : decode (zmc m_X3_sumOf) 22 = .ok (.iload_n 3, 1) := by decide +kernel
theorem d_X3_sumOf_23 : decode (zmc m_X3_sumOf) 23 = .ok (.aload_n 0, 1) := by decide +kernel
theorem d_X3_sumOf_24 : decode (zmc m_X3_sumOf) 24 = .ok (.getfield 9, 3) := by decide +kernel
theorem d_X3_sumOf_27 : decode (zmc m_X3_sumOf) 27 = .ok (.iload 4, 2) := by decide +kernel
theorem d_X3_sumOf_29 : decode (zmc m_X3_sumOf) 29 = .ok (.iaload, 1) := by decide +kernel
theorem d_X3_sumOf_30 : decode (zmc m_X3_sumOf) 30 = .ok (.iadd, 1) := by decide +kernel
theorem d_X3_sumOf_31 : decode (zmc m_X3_sumOf) 31 = .ok (.istore_n 3, 1) := by decide +kernel
theorem d_X3_sumOf_32 : decode (zmc m_X3_sumOf) 32 = .ok (.iinc 4 1, 3) := by decide +kernel
theorem d_X3_sumOf_35 : decode (zmc m_X3_sumOf) 35 = .ok (.goto (-26), 3) := by decide +kernel
theorem d_X3_sumOf_38 : decode (zmc m_X3_sumOf) 38 = .ok (.iload_n 3, 1) := by decide +kernel
theorem d_X3_sumOf_39 : decode (zmc m_X3_sumOf) 39 = .ok (.ireturn, 1) := by decide +kernel
/-! THE FINDER -/
def zZero32 (f : Nat → Int32) (n k : Nat) : Nat → Int32 := zfor (fun k f => zup f k 0) n k f
def zSprS (I : Nat → Nat → Int32) (k : Nat) (f : Nat → Int32) : Nat → Int32 := if I 7 k = 0 ∨ zPlace I k < 0 ∨ 24 ≤ zPlace I k then f else zup f (zPlace I k).toNatClampNeg (f (zPlace I k).toNatClampNeg + I 4 k)
def zSpr (I : Nat → Nat → Int32) (ns : Nat) : Nat → Int32 := zfor (zSprS I) ns 0 (zZero32 (I 23) 24 0)
def zSumB (B : Nat → Int32) (a b : Nat) : Int32 := zfor (fun p s => s + B p) (min (b + 1) 24) a 0
def zFar (b t : Nat) : Nat := max (t - 2 * b) ((t - b) / 2)
def zWalkS (B : Nat → Int32) (p t : Nat) (b : Nat) (s : Int32 × Int32) : Int32 × Int32 := if s.1 < zSumB B (p - b) (p + zFar b t) then (zSumB B (p - b) (p + zFar b t), nI b) else s
def zWalk (B : Nat → Int32) (p t : Nat) : Int32 × Int32 := zfor (zWalkS B p t) (min p t + 1) 0 (-1, 0)
section S15
variable {g : zG} {l : Launch} {d : Nat} {I : Nat → Nat → Int32} {L : Nat → Nat → Int64} {fs : Nat × Nat × Option Nat} {ns nt nh : Nat}
theorem zPlace_up {f : Nat → Int32} {k : Nat} : zPlace (zup I 23 f) k = zPlace I k := rfl
theorem sp_X3_spread (hd : 5 ≤ d) (hK : zSky I ns nt nh) : zSp g l d 100 m_X3_spread [.ref 22] (zU I L fs) (zV (fun w => w = zU (zup I 23 (zSpr I ns)) L fs)) := by
  have hn := hK.2.1
  have loop2 : ∀ k, k ≤ ns → ∀ f (v2 : List (Nat × Value)), zfor (zSprS I) ns k f = zSpr I ns → zA g l d m_X3_spread (zup I 23 f) L fs 23 [(1, .int (nI k)), (0, .ref 22)] (zV (fun w => w = zU (zup I 23 (zSpr I ns)) L fs)) := by
    refine zloop ns (fun k hk ih f v2 hx => ?_)
    have hK1 := zSky_up (a := 23) (f := f) hK (by decide)
    refine zIloadN d_X3_spread_23 rfl rfl (q := 24) rfl ?_
    refine zAloadN d_X3_spread_24 rfl rfl (q := 25) rfl ?_
    refine zGetR d_X3_spread_25 ff_X3_15 sh_22 (by decide) r_22_0 (q := 28) rfl ?_
    refine zGetI d_X3_spread_28 ff_X3_41 sh_1 (by decide) (q := 31) rfl ?_
    refine zIcmp_ge d_X3_spread_31 (tgt := 89) (q := 34) (by decide) rfl (fun h31 => ?_) (fun h31 => ?_)
    · have e := nle (hK1.1.1 ▸ h31)
      have ef : f = zSpr I ns := by rw [← hx, zfor_end e]
      refine zVret d_X3_spread_89 rfl rfl ?_
      exact ⟨rfl, by rw [ef]⟩
    · have hlt := nnle (hK1.1.1 ▸ h31)
      rw [zfor_step hlt] at hx
      refine zAloadN d_X3_spread_34 rfl rfl (q := 35) rfl ?_
      refine zGetR d_X3_spread_35 ff_X3_15 sh_22 (by decide) r_22_0 (q := 38) rfl ?_
      refine zIloadN d_X3_spread_38 rfl rfl (q := 39) rfl ?_
      refine zCallVP d_X3_spread_39 ml_X3_46 k_X9_placeOnSand ki_X9_placeOnSand ks_X9_placeOnSand (sp_X9_placeOnSand (d := d - 1) (by omega) hK1 hlt) rfl rfl sh_1 (by decide) rfl (by decide) (Nat.le_of_ble_eq_true rfl) (by decide) (by omega) zns100 (q := 42) rfl ?_
      refine zIstoreN d_X3_spread_42 rfl (by decide) rfl (q := 43) rfl ?_
      refine zAloadN d_X3_spread_43 rfl rfl (q := 44) rfl ?_
      refine zGetR d_X3_spread_44 ff_X3_15 sh_22 (by decide) r_22_0 (q := 47) rfl ?_
      refine zIconst d_X3_spread_47 (v := 4) ic_4 (q := 48) rfl ?_
      refine zIloadN d_X3_spread_48 rfl rfl (q := 49) rfl ?_
      refine zCallVP d_X3_spread_49 ml_X3_50 k_X9_get ki_X9_get ks_X9_get (sp_get4 (d := d - 1) (by omega) hK1 hlt) rfl rfl sh_1 (by decide) rfl (by decide) (Nat.le_of_ble_eq_true rfl) (by decide) (by omega) zns100 (q := 52) rfl ?_
      refine zIf_eq d_X3_spread_52 (tgt := 83) (q := 55) (by decide) rfl (fun h52 => ?_) (fun h52 => ?_)
      · try rw [zup_zup, zup_eq]
        refine zIinc d_X3_spread_83 rfl (zinc _) (by decide) rfl (q := 86) rfl ?_
        refine zGoto d_X3_spread_86 (q := 23) (by decide) ?_
        refine zSub [0, 2] rfl ?_
        refine ih hlt _ [] ?_
        rw [← hx]
        congr 1
        unfold zSprS
        first | exact (if_pos (Or.inl h52)).symm | exact (if_pos (Or.inr (Or.inl h56))).symm | exact (if_pos (Or.inr (Or.inr h62))).symm | (rw [if_neg (by rintro (q | q | q); exact h52 q; exact h56 q; exact h62 q), hp, zcl_n (by omega)]; rfl)
      · refine zIloadN d_X3_spread_55 rfl rfl (q := 56) rfl ?_
        refine zIf_lt d_X3_spread_56 (tgt := 83) (q := 59) (by decide) rfl (fun h56 => ?_) (fun h56 => ?_)
        · try rw [zup_zup, zup_eq]
          refine zIinc d_X3_spread_83 rfl (zinc _) (by decide) rfl (q := 86) rfl ?_
          refine zGoto d_X3_spread_86 (q := 23) (by decide) ?_
          refine zSub [0, 2] rfl ?_
          refine ih hlt _ [] ?_
          rw [← hx]
          congr 1
          unfold zSprS
          first | exact (if_pos (Or.inl h52)).symm | exact (if_pos (Or.inr (Or.inl h56))).symm | exact (if_pos (Or.inr (Or.inr h62))).symm | (rw [if_neg (by rintro (q | q | q); exact h52 q; exact h56 q; exact h62 q), hp, zcl_n (by omega)]; rfl)
        · refine zIloadN d_X3_spread_59 rfl rfl (q := 60) rfl ?_
          refine zBipush d_X3_spread_60 (v := 24) bc_24 (q := 62) rfl ?_
          refine zIcmp_ge d_X3_spread_62 (tgt := 83) (q := 65) (by decide) rfl (fun h62 => ?_) (fun h62 => ?_)
          · try rw [zup_zup, zup_eq]
            refine zIinc d_X3_spread_83 rfl (zinc _) (by decide) rfl (q := 86) rfl ?_
            refine zGoto d_X3_spread_86 (q := 23) (by decide) ?_
            refine zSub [0, 2] rfl ?_
            refine ih hlt _ [] ?_
            rw [← hx]
            congr 1
            unfold zSprS
            first | exact (if_pos (Or.inl h52)).symm | exact (if_pos (Or.inr (Or.inl h56))).symm | exact (if_pos (Or.inr (Or.inr h62))).symm | (rw [if_neg (by rintro (q | q | q); exact h52 q; exact h56 q; exact h62 q), hp, zcl_n (by omega)]; rfl)
          · have h56' : ¬ zPlace I k < 0 := h56
            have h62' : ¬ 24 ≤ zPlace I k := h62
            obtain ⟨j, hj, hp⟩ := zn1 (x := zPlace I k) (n := 24) (by omega) (by grind) (by have : nI 24 = 24 := rfl; grind)
            refine zAloadN d_X3_spread_65 rfl rfl (q := 66) rfl ?_
            refine zGetR d_X3_spread_66 ff_X3_9 sh_22 (by decide) r_22_1 (q := 69) rfl ?_
            refine zIloadN d_X3_spread_69 rfl rfl (q := 70) rfl ?_
            refine zDup2 d_X3_spread_70 rfl rfl (q := 71) rfl ?_
            refine zIald d_X3_spread_71 sh_23 (by decide) hp hj (q := 72) rfl ?_
            refine zAloadN d_X3_spread_72 rfl rfl (q := 73) rfl ?_
            refine zGetR d_X3_spread_73 ff_X3_15 sh_22 (by decide) r_22_0 (q := 76) rfl ?_
            refine zIconst d_X3_spread_76 (v := 1) ic_1 (q := 77) rfl ?_
            refine zIloadN d_X3_spread_77 rfl rfl (q := 78) rfl ?_
            refine zCallVP d_X3_spread_78 ml_X3_50 k_X9_get ki_X9_get ks_X9_get (sp_get1 (d := d - 1) (by omega) hK1 hlt) rfl rfl sh_1 (by decide) rfl (by decide) (Nat.le_of_ble_eq_true rfl) (by decide) (by omega) zns100 (q := 81) rfl ?_
            refine zIadd d_X3_spread_81 (q := 82) rfl ?_
            refine zIast d_X3_spread_82 sh_23 (by decide) hp hj (q := 83) rfl ?_
            try rw [zup_zup, zup_eq]
            refine zIinc d_X3_spread_83 rfl (zinc _) (by decide) rfl (q := 86) rfl ?_
            refine zGoto d_X3_spread_86 (q := 23) (by decide) ?_
            refine zSub [0, 2] rfl ?_
            refine ih hlt _ [] ?_
            rw [← hx]
            congr 1
            unfold zSprS
            first | exact (if_pos (Or.inl h52)).symm | exact (if_pos (Or.inr (Or.inl h56))).symm | exact (if_pos (Or.inr (Or.inr h62))).symm | (rw [if_neg (by rintro (q | q | q); exact h52 q; exact h56 q; exact h62 q), hp, zcl_n (by omega)]; rfl)
  have loop1 : ∀ k, k ≤ 24 → ∀ f, zZero32 f 24 k = zZero32 (I 23) 24 0 → zA g l d m_X3_spread (zup I 23 f) L fs 2 [(1, .int (nI k)), (0, .ref 22)] (zV (fun w => w = zU (zup I 23 (zSpr I ns)) L fs)) := by
    refine zloop 24 (fun k hk ih f hx => ?_)
    unfold zZero32 at hx
    refine zIloadN d_X3_spread_2 rfl rfl (q := 3) rfl ?_
    refine zBipush d_X3_spread_3 (v := 24) bc_24 (q := 5) rfl ?_
    refine zIcmp_ge d_X3_spread_5 (tgt := 21) (q := 8) (by decide) rfl (fun h5 => ?_) (fun h5 => ?_)
    · have e := nle (b := 24) h5
      have ef : f = zZero32 (I 23) 24 0 := (zfor_end e).symm.trans hx
      refine zIconst d_X3_spread_21 (v := 0) ic_0 (q := 22) rfl ?_
      refine zIstoreN d_X3_spread_22 rfl (by decide) rfl (q := 23) rfl ?_
      refine zSub [0, 1] rfl ?_
      exact loop2 0 (Nat.zero_le _) f [] (by rw [ef]; rfl)
    · have hlt := nnle (b := 24) h5
      rw [zfor_step hlt] at hx
      refine zAloadN d_X3_spread_8 rfl rfl (q := 9) rfl ?_
      refine zGetR d_X3_spread_9 ff_X3_9 sh_22 (by decide) r_22_1 (q := 12) rfl ?_
      refine zIloadN d_X3_spread_12 rfl rfl (q := 13) rfl ?_
      refine zIconst d_X3_spread_13 (v := 0) ic_0 (q := 14) rfl ?_
      refine zIast d_X3_spread_14 sh_23 (by decide) rfl (by omega) (q := 15) rfl ?_
      rw [zup_zup, zup_eq]
      refine zIinc d_X3_spread_15 rfl (zinc _) (by decide) rfl (q := 18) rfl ?_
      refine zGoto d_X3_spread_18 (q := 2) (by decide) ?_
      refine zSub [0, 1] rfl ?_
      exact ih hlt _ hx
  have h0 := loop1 0 (Nat.zero_le _) (I 23) rfl
  rw [zup_self] at h0
  refine zSp_of (lv := [(0, .ref 22)]) k_X3_spread rfl (Nat.le_of_ble_eq_true rfl) ?_
  refine zIconst d_X3_spread_0 (v := 0) ic_0 (q := 1) rfl ?_
  refine zIstoreN d_X3_spread_1 rfl (by decide) rfl (q := 2) rfl ?_
  refine zSub [0, 1] rfl ?_
  exact h0
theorem sp_X3_furthestRight (hd : 1 ≤ d) {b t : Nat} (hb : b ≤ t) (ht : t ≤ 40) : zPure g l d m_X3_furthestRight [.int (nI b), .int (nI t)] I L fs (.int (nI (zFar b t))) := by
  have e1 : (nI t - nI b) / 2 = nI ((t - b) / 2) := by rw [pk_sub hb]; exact pk_div (d := 2) (by omega) (by omega) (by omega)
  have e2 : (2 : Int32) * nI b = nI (2 * b) := by rw [← pk_mul]; rfl
  have e3 : (0 : Int32) = nI 0 := rfl
  refine zSp_of (lv := [(0, .int (nI b)), (1, .int (nI t))]) k_X3_furthestRight rfl (Nat.le_of_ble_eq_true rfl) ?_
  refine zIconst d_X3_furthestRight_0 (v := 0) ic_0 (q := 1) rfl ?_
  refine zIloadN d_X3_furthestRight_1 rfl rfl (q := 2) rfl ?_
  refine zIconst d_X3_furthestRight_2 (v := 2) ic_2 (q := 3) rfl ?_
  refine zIloadN d_X3_furthestRight_3 rfl rfl (q := 4) rfl ?_
  refine zImul d_X3_furthestRight_4 (q := 5) rfl ?_
  refine zIsub d_X3_furthestRight_5 (q := 6) rfl ?_
  refine zIloadN d_X3_furthestRight_6 rfl rfl (q := 7) rfl ?_
  refine zIloadN d_X3_furthestRight_7 rfl rfl (q := 8) rfl ?_
  refine zIsub d_X3_furthestRight_8 (q := 9) rfl ?_
  refine zIconst d_X3_furthestRight_9 (v := 2) ic_2 (q := 10) rfl ?_
  refine zIdiv d_X3_furthestRight_10 (by decide) (q := 11) rfl ?_
  rw [e1, e2]
  refine zMax d_X3_furthestRight_11 ml_X3_36 (by omega) (Nat.le_of_ble_eq_true rfl) ⟨Nat.le_refl _, Nat.le_refl _⟩ (q := 14) rfl ?_
  refine zMax d_X3_furthestRight_14 ml_X3_36 (by omega) (Nat.le_of_ble_eq_true rfl) ⟨Nat.le_refl _, Nat.le_refl _⟩ (q := 17) rfl ?_
  refine zIret d_X3_furthestRight_17 rfl rfl rfl ?_
  refine zPi ?_
  unfold zFar
  by_cases q : 2 * b ≤ t
  · rw [pk_sub q, e3]
    by_cases q2 : nI (t - 2 * b) < nI ((t - b) / 2)
    · have h2 := nlt q2
      rw [if_pos q2]
      by_cases q3 : nI 0 < nI ((t - b) / 2)
      · rw [if_pos q3, Nat.max_eq_right (by omega)]
      · rw [if_neg q3]; have := nnlt q3; rw [Nat.max_eq_right (by omega)]; congr 1; omega
    · have h2 := nnlt q2
      rw [if_neg q2]
      by_cases q3 : nI 0 < nI (t - 2 * b)
      · rw [if_pos q3, Nat.max_eq_left (by omega)]
      · rw [if_neg q3]; have := nnlt q3; rw [Nat.max_eq_left (by omega)]; congr 1; omega
  · have hneg : nI t - nI (2 * b) < 0 := pk_sneg (by omega) (by omega)
    have h0 : (0 : Int32) ≤ nI ((t - b) / 2) := zn_ge (by omega)
    have q2 : nI t - nI (2 * b) < nI ((t - b) / 2) := by grind
    rw [if_pos q2, e3]
    by_cases q3 : nI 0 < nI ((t - b) / 2)
    · rw [if_pos q3, Nat.max_eq_right (by omega)]
    · rw [if_neg q3]; have := nnlt q3; rw [Nat.max_eq_right (by omega)]; congr 1; omega
theorem sp_X3_sumOf (hd : 1 ≤ d) {a b : Nat} (ha : a ≤ 24) (hb : b ≤ 100) : zPure g l d m_X3_sumOf [.ref 22, .int (nI a), .int (nI b)] I L fs (.int (zSumB (I 23) a b)) := by
  have loop : ∀ k, k ≤ max a (min (b + 1) 24) → a ≤ k → ∀ s, zfor (fun p s => s + I 23 p) (min (b + 1) 24) k s = zSumB (I 23) a b → zA g l d m_X3_sumOf I L fs 9 [(4, .int (nI k)), (3, .int s), (0, .ref 22), (1, .int (nI a)), (2, .int (nI b))] (zP (.int (zSumB (I 23) a b)) (zU I L fs)) := by
    refine zloop (max a (min (b + 1) 24)) (fun k hk ih hak s hx => ?_)
    refine zIload d_X3_sumOf_9 rfl (q := 11) rfl ?_
    refine zIloadN d_X3_sumOf_11 rfl rfl (q := 12) rfl ?_
    refine zIcmp_gt d_X3_sumOf_12 (tgt := 38) (q := 15) (by decide) rfl (fun h12 => ?_) (fun h12 => ?_)
    · have e := nlt h12
      have e2 : min (b + 1) 24 ≤ k := by omega
      refine zIloadN d_X3_sumOf_38 rfl rfl (q := 39) rfl ?_
      refine zIret d_X3_sumOf_39 rfl rfl rfl ?_
      exact zPi (by rw [← hx, zfor_end e2])
    · refine zIload d_X3_sumOf_15 rfl (q := 17) rfl ?_
      refine zBipush d_X3_sumOf_17 (v := 24) bc_24 (q := 19) rfl ?_
      refine zIcmp_ge d_X3_sumOf_19 (tgt := 38) (q := 22) (by decide) rfl (fun h19 => ?_) (fun h19 => ?_)
      · have e := nle (b := 24) h19
        have e2 : min (b + 1) 24 ≤ k := by omega
        refine zIloadN d_X3_sumOf_38 rfl rfl (q := 39) rfl ?_
        refine zIret d_X3_sumOf_39 rfl rfl rfl ?_
        exact zPi (by rw [← hx, zfor_end e2])
      · have h1 := nnlt h12
        have h2 := nnle (b := 24) h19
        rw [zfor_step (by omega)] at hx
        refine zIloadN d_X3_sumOf_22 rfl rfl (q := 23) rfl ?_
        refine zAloadN d_X3_sumOf_23 rfl rfl (q := 24) rfl ?_
        refine zGetR d_X3_sumOf_24 ff_X3_9 sh_22 (by decide) r_22_1 (q := 27) rfl ?_
        refine zIload d_X3_sumOf_27 rfl (q := 29) rfl ?_
        refine zIald d_X3_sumOf_29 sh_23 (by decide) rfl (by omega) (q := 30) rfl ?_
        refine zIadd d_X3_sumOf_30 (q := 31) rfl ?_
        refine zIstoreN d_X3_sumOf_31 rfl (by decide) rfl (q := 32) rfl ?_
        refine zIinc d_X3_sumOf_32 rfl (zinc _) (by decide) rfl (q := 35) rfl ?_
        refine zGoto d_X3_sumOf_35 (q := 9) (by decide) ?_
        refine zSub [0, 1, 2, 3, 4] rfl ?_
        exact ih (by omega) (by omega) _ hx
  have hm : (if 0 < nI a then nI a else 0) = nI a := by
    by_cases q : 0 < nI a
    · rw [if_pos q]
    · rw [if_neg q]
      have := nnlt (a := 0) q
      rw [show a = 0 by omega]; rfl
  refine zSp_of (lv := [(0, .ref 22), (1, .int (nI a)), (2, .int (nI b))]) k_X3_sumOf rfl (Nat.le_of_ble_eq_true rfl) ?_
  refine zIconst d_X3_sumOf_0 (v := 0) ic_0 (q := 1) rfl ?_
  refine zIstoreN d_X3_sumOf_1 rfl (by decide) rfl (q := 2) rfl ?_
  refine zIconst d_X3_sumOf_2 (v := 0) ic_0 (q := 3) rfl ?_
  refine zIloadN d_X3_sumOf_3 rfl rfl (q := 4) rfl ?_
  refine zMax d_X3_sumOf_4 ml_X3_36 (by omega) (Nat.le_of_ble_eq_true rfl) ⟨Nat.le_refl _, Nat.le_refl _⟩ (q := 7) rfl ?_
  rw [hm]
  refine zIstore d_X3_sumOf_7 (by decide) rfl (q := 9) rfl ?_
  refine zSub [0, 1, 2, 3, 4] rfl ?_
  exact loop a (by omega) (Nat.le_refl _) 0 rfl
theorem sp_X3_look (hd : 6 ≤ d) (hK : zSky I ns nt nh) {p t : Nat} (hp : p < 24) (ht : t ≤ 40) : zSp g l d 100 m_X3_look [.ref 22, .int (nI p), .int (nI t)] (zU I L fs) (zV (fun w => w = zU (zup (zup I 23 (zSpr I ns)) 22 (zup (zup (I 22) 2 (zWalk (zSpr I ns) p t).1) 3 (zWalk (zSpr I ns) p t).2)) L fs)) := by
  have loop : ∀ k, k ≤ min p t + 1 → ∀ s, zfor (zWalkS (zSpr I ns) p t) (min p t + 1) k s = zWalk (zSpr I ns) p t → zA g l d m_X3_look (zup (zup I 23 (zSpr I ns)) 22 (zup (zup (I 22) 2 s.1) 3 s.2)) L fs 16 [(3, .int (nI k)), (0, .ref 22), (1, .int (nI p)), (2, .int (nI t))] (zV (fun w => w = zU (zup (zup I 23 (zSpr I ns)) 22 (zup (zup (I 22) 2 (zWalk (zSpr I ns) p t).1) 3 (zWalk (zSpr I ns) p t).2)) L fs)) := by
    refine zloop (min p t + 1) (fun k hk ih s hx => ?_)
    refine zIloadN d_X3_look_16 rfl rfl (q := 17) rfl ?_
    refine zIloadN d_X3_look_17 rfl rfl (q := 18) rfl ?_
    refine zIcmp_gt d_X3_look_18 (tgt := 68) (q := 21) (by decide) rfl (fun h18 => ?_) (fun h18 => ?_)
    · have e := nlt h18
      have e2 : min p t + 1 ≤ k := by omega
      refine zVret d_X3_look_68 rfl rfl ?_
      exact ⟨rfl, by rw [← hx, zfor_end e2]⟩
    · refine zIloadN d_X3_look_21 rfl rfl (q := 22) rfl ?_
      refine zIloadN d_X3_look_22 rfl rfl (q := 23) rfl ?_
      refine zIcmp_gt d_X3_look_23 (tgt := 68) (q := 26) (by decide) rfl (fun h23 => ?_) (fun h23 => ?_)
      · have e := nlt h23
        have e2 : min p t + 1 ≤ k := by omega
        refine zVret d_X3_look_68 rfl rfl ?_
        exact ⟨rfl, by rw [← hx, zfor_end e2]⟩
      · have h1 := nnlt h18
        have h2 := nnlt h23
        rw [zfor_step (by omega)] at hx
        refine zAloadN d_X3_look_26 rfl rfl (q := 27) rfl ?_
        refine zIloadN d_X3_look_27 rfl rfl (q := 28) rfl ?_
        refine zIloadN d_X3_look_28 rfl rfl (q := 29) rfl ?_
        refine zIsub d_X3_look_29 (q := 30) rfl ?_
        refine zIloadN d_X3_look_30 rfl rfl (q := 31) rfl ?_
        refine zIloadN d_X3_look_31 rfl rfl (q := 32) rfl ?_
        refine zIloadN d_X3_look_32 rfl rfl (q := 33) rfl ?_
        refine zCallSP d_X3_look_33 ml_X3_29 k_X3_furthestRight kt_X3_furthestRight (sp_X3_furthestRight (d := d - 1) (by omega) h2 ht) rfl rfl (Nat.le_of_ble_eq_true rfl) (by decide) (by omega) zns100 (q := 36) rfl ?_
        refine zIadd d_X3_look_36 (q := 37) rfl ?_
        rw [pk_sub h1, nI_add]
        refine zCallVP d_X3_look_37 ml_X3_33 k_X3_sumOf ki_X3_sumOf ks_X3_sumOf (sp_X3_sumOf (d := d - 1) (by omega) (a := p - k) (b := p + zFar k t) (by omega) (by unfold zFar; omega)) rfl rfl sh_22 (by decide) rfl (by decide) (Nat.le_of_ble_eq_true rfl) (by decide) (by omega) zns100 (q := 40) rfl ?_
        rw [show (zup (zup I 23 (zSpr I ns)) 22 (zup (zup (I 22) 2 s.1) 3 s.2)) 23 = zSpr I ns from rfl]
        refine zIstore d_X3_look_40 (by decide) rfl (q := 42) rfl ?_
        refine zIload d_X3_look_42 rfl (q := 44) rfl ?_
        refine zAloadN d_X3_look_44 rfl rfl (q := 45) rfl ?_
        refine zGetI d_X3_look_45 ff_X3_22 sh_22 (by decide) (q := 48) rfl ?_
        refine zIcmp_le d_X3_look_48 (tgt := 62) (q := 51) (by decide) rfl (fun h48 => ?_) (fun h48 => ?_)
        · have e : zWalkS (zSpr I ns) p t k s = s := by unfold zWalkS; rw [if_neg (by have q : zSumB (zSpr I ns) (p - k) (p + zFar k t) ≤ s.1 := h48; grind)]
          rw [e] at hx
          refine zIinc d_X3_look_62 rfl (zinc _) (by decide) rfl (q := 65) rfl ?_
          refine zGoto d_X3_look_65 (q := 16) (by decide) ?_
          refine zSub [0, 2, 3, 4] rfl ?_
          first | exact ih (by omega) _ hx | (rw [zup_zup, zup_eq, zup_zup, zup_eq]; refine (?_ : zA g l d m_X3_look (zup (zup I 23 (zSpr I ns)) 22 (zup (zup (zup (zup (I 22) 2 s.1) 3 s.2) 2 (zSumB (zSpr I ns) (p - k) (p + zFar k t))) 3 (nI k))) L fs 16 _ _); rw [zup_3 (show (2 : Nat) ≠ 3 by decide), zup_zup]; exact ih (by omega) _ hx)
        · have e : zWalkS (zSpr I ns) p t k s = (zSumB (zSpr I ns) (p - k) (p + zFar k t), nI k) := by unfold zWalkS; rw [if_pos (by have q : ¬ zSumB (zSpr I ns) (p - k) (p + zFar k t) ≤ s.1 := h48; grind)]
          rw [e] at hx
          refine zAloadN d_X3_look_51 rfl rfl (q := 52) rfl ?_
          refine zIload d_X3_look_52 rfl (q := 54) rfl ?_
          refine zPutI d_X3_look_54 ff_X3_22 rfl rfl rfl sh_22 (by decide) (q := 57) rfl ?_
          refine zAloadN d_X3_look_57 rfl rfl (q := 58) rfl ?_
          refine zIloadN d_X3_look_58 rfl rfl (q := 59) rfl ?_
          refine zPutI d_X3_look_59 ff_X3_26 rfl rfl rfl sh_22 (by decide) (q := 62) rfl ?_
          refine zIinc d_X3_look_62 rfl (zinc _) (by decide) rfl (q := 65) rfl ?_
          refine zGoto d_X3_look_65 (q := 16) (by decide) ?_
          refine zSub [0, 2, 3, 4] rfl ?_
          first | exact ih (by omega) _ hx | (rw [zup_zup, zup_eq, zup_zup, zup_eq]; refine (?_ : zA g l d m_X3_look (zup (zup I 23 (zSpr I ns)) 22 (zup (zup (zup (zup (I 22) 2 s.1) 3 s.2) 2 (zSumB (zSpr I ns) (p - k) (p + zFar k t))) 3 (nI k))) L fs 16 _ _); rw [zup_3 (show (2 : Nat) ≠ 3 by decide), zup_zup]; exact ih (by omega) _ hx)
  refine zSp_of (lv := [(0, .ref 22), (1, .int (nI p)), (2, .int (nI t))]) k_X3_look rfl (Nat.le_of_ble_eq_true rfl) ?_
  refine zAloadN d_X3_look_0 rfl rfl (q := 1) rfl ?_
  refine zCallVV d_X3_look_1 ml_X3_19 k_X3_spread ki_X3_spread ks_X3_spread (sp_X3_spread (d := d - 1) (by omega) hK) rfl rfl sh_22 (by decide) rfl (by decide) (Nat.le_of_ble_eq_true rfl) (by decide) (by omega) zns100 (q := 4) rfl (fun w' hw' => ?_)
  subst hw'
  refine zAloadN d_X3_look_4 rfl rfl (q := 5) rfl ?_
  refine zIconst d_X3_look_5 (v := -1) ic_m1 (q := 6) rfl ?_
  refine zPutI d_X3_look_6 ff_X3_22 rfl rfl rfl sh_22 (by decide) (q := 9) rfl ?_
  refine zAloadN d_X3_look_9 rfl rfl (q := 10) rfl ?_
  refine zIconst d_X3_look_10 (v := 0) ic_0 (q := 11) rfl ?_
  refine zPutI d_X3_look_11 ff_X3_26 rfl rfl rfl sh_22 (by decide) (q := 14) rfl ?_
  rw [zup_zup, zup_eq]
  refine zIconst d_X3_look_14 (v := 0) ic_0 (q := 15) rfl ?_
  refine zIstoreN d_X3_look_15 rfl (by decide) rfl (q := 16) rfl ?_
  refine zSub [0, 1, 2, 3] rfl ?_
  exact loop 0 (Nat.zero_le _) (-1, 0) rfl
end S15

