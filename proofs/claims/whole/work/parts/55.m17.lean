theorem d_X12_byTurns_0 : decode (zmc m_X12_byTurns) 0 = .ok (.iload_n 1, 1) := by decide +kernel
theorem d_X12_byTurns_1 : decode (zmc m_X12_byTurns) 1 = .ok (.iconst 1, 1) := by decide +kernel
theorem d_X12_byTurns_2 : decode (zmc m_X12_byTurns) 2 = .ok (.iconst 4, 1) := by decide +kernel
theorem d_X12_byTurns_3 : decode (zmc m_X12_byTurns) 3 = .ok (.invokestatic 127, 3) := by decide +kernel
theorem d_X12_byTurns_6 : decode (zmc m_X12_byTurns) 6 = .ok (.ifCond .eq 12, 3) := by decide +kernel
theorem d_X12_byTurns_9 : decode (zmc m_X12_byTurns) 9 = .ok (.iload_n 2, 1) := by decide +kernel
theorem d_X12_byTurns_10 : decode (zmc m_X12_byTurns) 10 = .ok (.iconst 0, 1) := by decide +kernel
theorem d_X12_byTurns_11 : decode (zmc m_X12_byTurns) 11 = .ok (.iconst 1, 1) := by decide +kernel
theorem d_X12_byTurns_12 : decode (zmc m_X12_byTurns) 12 = .ok (.invokestatic 127, 3) := by decide +kernel
theorem d_X12_byTurns_15 : decode (zmc m_X12_byTurns) 15 = .ok (.ifCond .ne 5, 3) := by decide +kernel
theorem d_X12_byTurns_18 : decode (zmc m_X12_byTurns) 18 = .ok (.iconst (-1), 1) := by decide +kernel
theorem d_X12_byTurns_19 : decode (zmc m_X12_byTurns) 19 = .ok (.ireturn, 1) := by decide +kernel
theorem d_X12_byTurns_20 : decode (zmc m_X12_byTurns) 20 = .ok (.aload_n 0, 1) := by decide +kernel
theorem d_X12_byTurns_21 : decode (zmc m_X12_byTurns) 21 = .ok (.invokevirtual 321, 3) := by decide +kernel
theorem d_X12_byTurns_24 : decode (zmc m_X12_byTurns) 24 = .ok (.istore_n 3, 1) := by decide +kernel
theorem d_X12_byTurns_25 : decode (zmc m_X12_byTurns) 25 = .ok (.aload_n 0, 1) := by decide +kernel
theorem d_X12_byTurns_26 : decode (zmc m_X12_byTurns) 26 = .ok (.iload_n 3, 1) := by decide +kernel
theorem d_X12_byTurns_27 : decode (zmc m_X12_byTurns) 27 = .ok (.iload_n 1, 1) := by decide +kernel
theorem d_X12_byTurns_28 : decode (zmc m_X12_byTurns) 28 = .ok (.iconst 1, 1) := by decide +kernel
theorem d_X12_byTurns_29 : decode (zmc m_X12_byTurns) 29 = .ok (.invokevirtual 346, 3) := by decide +kernel
theorem d_X12_byTurns_32 : decode (zmc m_X12_byTurns) 32 = .ok (.istore 4, 2) := by decide +kernel
theorem d_X12_byTurns_34 : decode (zmc m_X12_byTurns) 34 = .ok (.iload_n 2, 1) := by decide +kernel
theorem d_X12_byTurns_35 : decode (zmc m_X12_byTurns) 35 = .ok (.ifCond .ne 6, 3) := by decide +kernel
theorem d_X12_byTurns_38 : decode (zmc m_X12_byTurns) 38 = .ok (.iload 4, 2) := by decide +kernel
theorem d_X12_byTurns_40 : decode (zmc m_X12_byTurns) 40 = .ok (.ireturn, 1) := by decide +kernel
theorem d_X12_byTurns_41 : decode (zmc m_X12_byTurns) 41 = .ok (.aload_n 0, 1) := by decide +kernel
theorem d_X12_byTurns_42 : decode (zmc m_X12_byTurns) 42 = .ok (.iload_n 3, 1) := by decide +kernel
theorem d_X12_byTurns_43 : decode (zmc m_X12_byTurns) 43 = .ok (.iload_n 1, 1) := by decide +kernel
theorem d_X12_byTurns_44 : decode (zmc m_X12_byTurns) 44 = .ok (.iconst 1, 1) := by decide +kernel
theorem d_X12_byTurns_45 : decode (zmc m_X12_byTurns) 45 = .ok (.isub, 1) := by decide +kernel
theorem d_X12_byTurns_46 : decode (zmc m_X12_byTurns) 46 = .ok (.iconst 0, 1) := by decide +kernel
theorem d_X12_byTurns_47 : decode (zmc m_X12_byTurns) 47 = .ok (.invokevirtual 346, 3) := by decide +kernel
theorem d_X12_byTurns_50 : decode (zmc m_X12_byTurns) 50 = .ok (.iload 4, 2) := by decide +kernel
theorem d_X12_byTurns_52 : decode (zmc m_X12_byTurns) 52 = .ok (.if_icmp .ne 6, 3) := by decide +kernel
theorem d_X12_byTurns_55 : decode (zmc m_X12_byTurns) 55 = .ok (.bipush 10, 2) := by decide +kernel
theorem d_X12_byTurns_57 : decode (zmc m_X12_byTurns) 57 = .ok (.ireturn, 1) := by decide +kernel
theorem d_X12_byTurns_58 : decode (zmc m_X12_byTurns) 58 = .ok (.iconst 0, 1) := by decide +kernel
theorem d_X12_byTurns_59 : decode (zmc m_X12_byTurns) 59 = .ok (.istore 5, 2) := by decide +kernel
theorem d_X12_byTurns_61 : decode (zmc m_X12_byTurns) 61 = .ok (.iload 5, 2) := by decide +kernel
theorem d_X12_byTurns_63 : decode (zmc m_X12_byTurns) 63 = .ok (.aload_n 0, 1) := by decide +kernel
theorem d_X12_byTurns_64 : decode (zmc m_X12_byTurns) 64 = .ok (.getfield 124, 3) := by decide +kernel
theorem d_X12_byTurns_67 : decode (zmc m_X12_byTurns) 67 = .ok (.if_icmp .ge 42, 3) := by decide +kernel
theorem d_X12_byTurns_70 : decode (zmc m_X12_byTurns) 70 = .ok (.aload_n 0, 1) := by decide +kernel
theorem d_X12_byTurns_71 : decode (zmc m_X12_byTurns) 71 = .ok (.iload 5, 2) := by decide +kernel
theorem d_X12_byTurns_73 : decode (zmc m_X12_byTurns) 73 = .ok (.iload_n 3, 1) := by decide +kernel
theorem d_X12_byTurns_74 : decode (zmc m_X12_byTurns) 74 = .ok (.iconst 1, 1) := by decide +kernel
theorem d_X12_byTurns_75 : decode (zmc m_X12_byTurns) 75 = .ok (.invokevirtual 350, 3) := by decide +kernel
theorem d_X12_byTurns_78 : decode (zmc m_X12_byTurns) 78 = .ok (.ifCond .eq 25, 3) := by decide +kernel
theorem d_X12_byTurns_81 : decode (zmc m_X12_byTurns) 81 = .ok (.aload_n 0, 1) := by decide +kernel
theorem d_X12_byTurns_82 : decode (zmc m_X12_byTurns) 82 = .ok (.iload_n 3, 1) := by decide +kernel
theorem d_X12_byTurns_83 : decode (zmc m_X12_byTurns) 83 = .ok (.iconst 1, 1) := by decide +kernel
theorem d_X12_byTurns_84 : decode (zmc m_X12_byTurns) 84 = .ok (.iload 5, 2) := by decide +kernel
theorem d_X12_byTurns_86 : decode (zmc m_X12_byTurns) 86 = .ok (.ishl, 1) := by decide +kernel
theorem d_X12_byTurns_87 : decode (zmc m_X12_byTurns) 87 = .ok (.ixor, 1) := by decide +kernel
theorem d_X12_byTurns_88 : decode (zmc m_X12_byTurns) 88 = .ok (.iload_n 1, 1) := by decide +kernel
theorem d_X12_byTurns_89 : decode (zmc m_X12_byTurns) 89 = .ok (.iconst 1, 1) := by decide +kernel
theorem d_X12_byTurns_90 : decode (zmc m_X12_byTurns) 90 = .ok (.isub, 1) := by decide +kernel
theorem d_X12_byTurns_91 : decode (zmc m_X12_byTurns) 91 = .ok (.iconst 0, 1) := by decide +kernel
theorem d_X12_byTurns_92 : decode (zmc m_X12_byTurns) 92 = .ok (.invokevirtual 346, 3) := by decide +kernel
theorem d_X12_byTurns_95 : decode (zmc m_X12_byTurns) 95 = .ok (.iload 4, 2) := by decide +kernel
theorem d_X12_byTurns_97 : decode (zmc m_X12_byTurns) 97 = .ok (.if_icmp .ne 6, 3) := by decide +kernel
theorem d_X12_byTurns_100 : decode (zmc m_X12_byTurns) 100 = .ok (.iload 5, 2) := by decide +kernel
theorem d_X12_byTurns_102 : decode (zmc m_X12_byTurns) 102 = .ok (.ireturn, 1) := by decide +kernel
theorem d_X12_byTurns_103 : decode (zmc m_X12_byTurns) 103 = .ok (.iinc 5 1, 3) := by decide +kernel
theorem d_X12_byTurns_106 : decode (zmc m_X12_byTurns) 106 = .ok (.goto (-45), 3) := by decide +kernel
theorem d_X12_byTurns_109 : decode (zmc m_X12_byTurns) 109 = .ok (.bipush 10, 2) := by decide +kernel
theorem d_X12_byTurns_111 : decode (zmc m_X12_byTurns) 111 = .ok (.ireturn, 1) := by decide +kernel
/-! THE REFERENCE: by turns, the answer -/
section S55
variable {g : zG} {l : Launch} {d : Nat} {I V : Nat → Nat → Int32} {L K : Nat → Nat → Int64} {fs : Nat × Nat × Option Nat} {ns nt nh nb : Nat} {pg : Option (List zLine)}
theorem sp_X12_byTurns (hd : 8 ≤ d) (hM : zMs I V) (hK : zSky V ns nt nh) (hB : zBd V ns nt nh) {n w0 : Int32} : zPure g l d m_X12_byTurns [.ref 64, .int n, .int w0] I L fs (.int (if ¬ ((1 ≤ n ∧ n ≤ 4) ∧ 0 ≤ w0 ∧ w0 ≤ 1) then -1 else if w0 = 0 then (zPTs V ns nh (n.toNatClampNeg - 1)).1 else (zPTs V ns nh (n.toNatClampNeg - 1)).2)) := by
  have hs := hK.2.1
  have m1 : I 64 1 = nI ns := hM.1.1.trans hK.1.1
  have hU := zbits_N (f := V 7) (n := ns) (by omega)
  have hUl := zN_lt (fun k => decide (¬ V 7 k = 0)) ns
  have hUb : ∀ k, k < ns → (zN (fun k => decide (¬ V 7 k = 0)) ns).testBit k = decide (¬ V 7 k = 0) := fun k hk => by rw [zN_bit, decide_eq_true hk, Bool.true_and]
  have h1024 : 2 ^ ns ≤ 2 ^ 10 := Nat.pow_le_pow_right (by decide) hs
  obtain ⟨U, eU⟩ : ∃ U, U = zN (fun k => decide (¬ V 7 k = 0)) ns := ⟨_, rfl⟩
  rw [← eU] at hU hUl hUb
  rcases Decidable.em ((1 ≤ n ∧ n ≤ 4) ∧ 0 ≤ w0 ∧ w0 ≤ 1) with hc | hc
  · obtain ⟨j, hj, rfl⟩ := zn1 (x := n) (n := 5) (by omega) (by have := hc.1.1; grind) (by have := hc.1.2; have e5 : nI 5 = 5 := rfl; grind)
    have h1 : 1 ≤ j := nle (b := 1) hc.1.1
    obtain ⟨i, rfl⟩ : ∃ i, j = i + 1 := ⟨j - 1, by omega⟩
    rw [if_neg (fun z => z hc), zcl_n (by omega), Nat.add_sub_cancel, zPTs_eq hs hU hUl hUb]
    obtain ⟨M, eM⟩ : ∃ M, M = zVal V ns nh (zAtHand V ns) (i + 1) true (nI U) := ⟨_, rfl⟩
    obtain ⟨p, ep⟩ : ∃ p : Nat → Bool, p = fun k => !(yTurn V true U k && decide (zVal V ns nh (zAtHand V ns) i false (nI (U ^^^ 2 ^ k)) = M)) := ⟨_, rfl⟩
    have eF : yFirst (yTurn V true U) (fun k => zVal V ns nh (zAtHand V ns) i false (nI (U ^^^ 2 ^ k))) M ns 0 = if zrun p ns 0 < ns then nI (zrun p ns 0) else 10 := by rw [ep]; rfl
    rw [← eM, eF]
    have bT := sp_X12_bestOf (g := g) (l := l) (L := L) (fs := fs) hM hK (i + 1) (by omega) (d - 1) U true (by omega) hUl
    have bF := sp_X12_bestOf (g := g) (l := l) (L := L) (fs := fs) hM hK i (by omega) (d - 1) U false (by omega) hUl
    have loop : ¬ w0 = 0 → ¬ zVal V ns nh (zAtHand V ns) i false (nI U) = M → ∀ k, k ≤ ns → zrun p ns k = zrun p ns 0 → zA g l d m_X12_byTurns I L fs 61 [(5, .int (nI k)), (4, .int M), (3, .int (nI U)), (0, .ref 64), (1, .int (nI (i + 1))), (2, .int w0)] (zP (.int (if w0 = 0 then (M, if zVal V ns nh (zAtHand V ns) i false (nI U) = M then (10 : Int32) else if zrun p ns 0 < ns then nI (zrun p ns 0) else 10).1 else (M, if zVal V ns nh (zAtHand V ns) i false (nI U) = M then (10 : Int32) else if zrun p ns 0 < ns then nI (zrun p ns 0) else 10).2)) (zU I L fs)) := by
      intro hw hne
      rw [if_neg hw]
      dsimp only
      rw [if_neg hne]
      refine zloop ns (fun k hk ih hx => ?_)
      refine zIload d_X12_byTurns_61 rfl (q := 63) rfl ?_
      refine zAloadN d_X12_byTurns_63 rfl rfl (q := 64) rfl ?_
      refine zGetI d_X12_byTurns_64 ff_X12_124 sh_64 (by decide) (q := 67) rfl ?_
      refine zIcmp_ge d_X12_byTurns_67 (tgt := 109) (q := 70) (by decide) rfl (fun h67 => ?_) (fun h67 => ?_)
      · have e : k = ns := by have := nle (m1 ▸ h67); omega
        rw [zrun_end (by omega)] at hx
        refine zBipush d_X12_byTurns_109 (v := 10) bc_10 (q := 111) rfl ?_
        refine zIret d_X12_byTurns_111 rfl rfl rfl ?_
        exact zPi (by rw [← hx, if_neg (by omega)])
      · have hlt := nnle (m1 ▸ h67)
        have bK := sp_X12_bestOf (g := g) (l := l) (L := L) (fs := fs) hM hK i (by omega) (d - 1) (U ^^^ 2 ^ k) false (by omega) (zxor_lt hUl hlt)
        refine zAloadN d_X12_byTurns_70 rfl rfl (q := 71) rfl ?_
        refine zIload d_X12_byTurns_71 rfl (q := 73) rfl ?_
        refine zIloadN d_X12_byTurns_73 rfl rfl (q := 74) rfl ?_
        refine zIconst d_X12_byTurns_74 (v := 1) ic_1 (q := 75) rfl ?_
        refine zCallVP d_X12_byTurns_75 ml_X12_350 k_X12_mayTurn ki_X12_mayTurn ks_X12_mayTurn (sp_X12_mayTurn (d := d - 1) (by omega) hM (u := U) (k := k) (by omega) (by omega) (w := true)) rfl rfl sh_64 (by decide) rfl (by decide) (Nat.le_of_ble_eq_true rfl) (by decide) (by omega) zns100 (q := 78) rfl ?_
        refine zIf_eq d_X12_byTurns_78 (tgt := 103) (q := 81) (by decide) rfl (fun h78 => ?_) (fun h78 => ?_)
        · have c : p k = true := by rw [ep]; simp [bi_0.mp h78]
          refine zIinc d_X12_byTurns_103 rfl (zinc _) (by decide) rfl (q := 106) rfl ?_
          refine zGoto d_X12_byTurns_106 (q := 61) (by decide) ?_
          refine zSub [0, 1, 2, 3, 4, 5] rfl ?_
          exact ih hlt (by rw [← hx, zrun_t hlt c])
        · have c1 := bi_n0.mp h78
          refine zAloadN d_X12_byTurns_81 rfl rfl (q := 82) rfl ?_
          refine zIloadN d_X12_byTurns_82 rfl rfl (q := 83) rfl ?_
          refine zIconst d_X12_byTurns_83 (v := 1) ic_1 (q := 84) rfl ?_
          refine zIload d_X12_byTurns_84 rfl (q := 86) rfl ?_
          refine zIshl d_X12_byTurns_86 (q := 87) rfl ?_
          rw [zone (by omega)]
          refine zIxor d_X12_byTurns_87 (q := 88) rfl ?_
          rw [zxor]
          refine zIloadN d_X12_byTurns_88 rfl rfl (q := 89) rfl ?_
          refine zIconst d_X12_byTurns_89 (v := 1) ic_1 (q := 90) rfl ?_
          refine zIsub d_X12_byTurns_90 (q := 91) rfl ?_
          refine zIconst d_X12_byTurns_91 (v := 0) ic_0 (q := 92) rfl ?_
          rw [nI_pred]
          refine zCallVP d_X12_byTurns_92 ml_X12_346 k_X12_bestOf ki_X12_bestOf ks_X12_bestOf bK rfl rfl sh_64 (by decide) rfl (by decide) (Nat.le_of_ble_eq_true rfl) (by decide) (by omega) zns100 (q := 95) rfl ?_
          refine zIload d_X12_byTurns_95 rfl (q := 97) rfl ?_
          refine zIcmp_ne d_X12_byTurns_97 (tgt := 103) (q := 100) (by decide) rfl (fun h97 => ?_) (fun h97 => ?_)
          · have c : p k = true := by rw [ep]; simp [h97]
            refine zIinc d_X12_byTurns_103 rfl (zinc _) (by decide) rfl (q := 106) rfl ?_
            refine zGoto d_X12_byTurns_106 (q := 61) (by decide) ?_
            refine zSub [0, 1, 2, 3, 4, 5] rfl ?_
            exact ih hlt (by rw [← hx, zrun_t hlt c])
          · have c2 : ¬ p k = true := by rw [ep]; simp [c1, h97]
            rw [zrun_f c2] at hx
            refine zIload d_X12_byTurns_100 rfl (q := 102) rfl ?_
            refine zIret d_X12_byTurns_102 rfl rfl rfl ?_
            exact zPi (by rw [← hx, if_pos hlt])
    refine zSp_of (lv := [(0, .ref 64), (1, .int (nI (i + 1))), (2, .int w0)]) k_X12_byTurns rfl (Nat.le_of_ble_eq_true rfl) ?_
    refine zIloadN d_X12_byTurns_0 rfl rfl (q := 1) rfl ?_
    refine zIconst d_X12_byTurns_1 (v := 1) ic_1 (q := 2) rfl ?_
    refine zIconst d_X12_byTurns_2 (v := 4) ic_4 (q := 3) rfl ?_
    refine zCallSP d_X12_byTurns_3 ml_X12_127 k_X12_in kt_X12_in (sp_X12_in (d := d - 1) (by omega) ) rfl rfl (Nat.le_of_ble_eq_true rfl) (by decide) (by omega) zns100 (q := 6) rfl ?_
    refine zIf_eq d_X12_byTurns_6 (tgt := 18) (q := 9) (by decide) rfl (fun h => absurd h (bi_n0.mpr hc.1)) (fun h6 => ?_)
    refine zIloadN d_X12_byTurns_9 rfl rfl (q := 10) rfl ?_
    refine zIconst d_X12_byTurns_10 (v := 0) ic_0 (q := 11) rfl ?_
    refine zIconst d_X12_byTurns_11 (v := 1) ic_1 (q := 12) rfl ?_
    refine zCallSP d_X12_byTurns_12 ml_X12_127 k_X12_in kt_X12_in (sp_X12_in (d := d - 1) (by omega) ) rfl rfl (Nat.le_of_ble_eq_true rfl) (by decide) (by omega) zns100 (q := 15) rfl ?_
    refine zIf_ne d_X12_byTurns_15 (tgt := 20) (q := 18) (by decide) rfl (fun h15 => ?_) (fun h => absurd h (fun z => bi_0.mp z hc.2))
    refine zAloadN d_X12_byTurns_20 rfl rfl (q := 21) rfl ?_
    refine zCallVP d_X12_byTurns_21 ml_X12_321 k_X12_upNow ki_X12_upNow ks_X12_upNow (sp_X12_upNow (d := d - 1) (by omega) hM hK hB) rfl rfl sh_64 (by decide) rfl (by decide) (Nat.le_of_ble_eq_true rfl) (by decide) (by omega) zns100 (q := 24) rfl ?_
    rw [hU]
    refine zIstoreN d_X12_byTurns_24 rfl (by decide) rfl (q := 25) rfl ?_
    refine zAloadN d_X12_byTurns_25 rfl rfl (q := 26) rfl ?_
    refine zIloadN d_X12_byTurns_26 rfl rfl (q := 27) rfl ?_
    refine zIloadN d_X12_byTurns_27 rfl rfl (q := 28) rfl ?_
    refine zIconst d_X12_byTurns_28 (v := 1) ic_1 (q := 29) rfl ?_
    refine zCallVP d_X12_byTurns_29 ml_X12_346 k_X12_bestOf ki_X12_bestOf ks_X12_bestOf bT rfl rfl sh_64 (by decide) rfl (by decide) (Nat.le_of_ble_eq_true rfl) (by decide) (by omega) zns100 (q := 32) rfl ?_
    rw [← eM]
    refine zIstore d_X12_byTurns_32 (by decide) rfl (q := 34) rfl ?_
    refine zIloadN d_X12_byTurns_34 rfl rfl (q := 35) rfl ?_
    refine zIf_ne d_X12_byTurns_35 (tgt := 41) (q := 38) (by decide) rfl (fun h35 => ?_) (fun h35 => ?_)
    · refine zAloadN d_X12_byTurns_41 rfl rfl (q := 42) rfl ?_
      refine zIloadN d_X12_byTurns_42 rfl rfl (q := 43) rfl ?_
      refine zIloadN d_X12_byTurns_43 rfl rfl (q := 44) rfl ?_
      refine zIconst d_X12_byTurns_44 (v := 1) ic_1 (q := 45) rfl ?_
      refine zIsub d_X12_byTurns_45 (q := 46) rfl ?_
      rw [nI_pred]
      refine zIconst d_X12_byTurns_46 (v := 0) ic_0 (q := 47) rfl ?_
      refine zCallVP d_X12_byTurns_47 ml_X12_346 k_X12_bestOf ki_X12_bestOf ks_X12_bestOf bF rfl rfl sh_64 (by decide) rfl (by decide) (Nat.le_of_ble_eq_true rfl) (by decide) (by omega) zns100 (q := 50) rfl ?_
      refine zIload d_X12_byTurns_50 rfl (q := 52) rfl ?_
      refine zIcmp_ne d_X12_byTurns_52 (tgt := 58) (q := 55) (by decide) rfl (fun h52 => ?_) (fun h52 => ?_)
      · refine zIconst d_X12_byTurns_58 (v := 0) ic_0 (q := 59) rfl ?_
        refine zIstore d_X12_byTurns_59 (by decide) rfl (q := 61) rfl ?_
        refine zSub [0, 1, 2, 3, 4, 5] rfl ?_
        exact loop h35 h52 0 (Nat.zero_le _) rfl
      · refine zBipush d_X12_byTurns_55 (v := 10) bc_10 (q := 57) rfl ?_
        refine zIret d_X12_byTurns_57 rfl rfl rfl ?_
        rw [if_neg h35, if_pos h52]
        exact zPi rfl
    · rw [if_pos h35]
      refine zIload d_X12_byTurns_38 rfl (q := 40) rfl ?_
      refine zIret d_X12_byTurns_40 rfl rfl rfl ?_
      exact zPi rfl
  · rw [if_pos hc]
    refine zSp_of (lv := [(0, .ref 64), (1, .int n), (2, .int w0)]) k_X12_byTurns rfl (Nat.le_of_ble_eq_true rfl) ?_
    refine zIloadN d_X12_byTurns_0 rfl rfl (q := 1) rfl ?_
    refine zIconst d_X12_byTurns_1 (v := 1) ic_1 (q := 2) rfl ?_
    refine zIconst d_X12_byTurns_2 (v := 4) ic_4 (q := 3) rfl ?_
    refine zCallSP d_X12_byTurns_3 ml_X12_127 k_X12_in kt_X12_in (sp_X12_in (d := d - 1) (by omega) ) rfl rfl (Nat.le_of_ble_eq_true rfl) (by decide) (by omega) zns100 (q := 6) rfl ?_
    refine zIf_eq d_X12_byTurns_6 (tgt := 18) (q := 9) (by decide) rfl (fun h6 => ?_) (fun h6 => ?_)
    · refine zIconst d_X12_byTurns_18 (v := -1) ic_m1 (q := 19) rfl ?_
      refine zIret d_X12_byTurns_19 rfl rfl rfl ?_
      exact zPi rfl
    · refine zIloadN d_X12_byTurns_9 rfl rfl (q := 10) rfl ?_
      refine zIconst d_X12_byTurns_10 (v := 0) ic_0 (q := 11) rfl ?_
      refine zIconst d_X12_byTurns_11 (v := 1) ic_1 (q := 12) rfl ?_
      refine zCallSP d_X12_byTurns_12 ml_X12_127 k_X12_in kt_X12_in (sp_X12_in (d := d - 1) (by omega) ) rfl rfl (Nat.le_of_ble_eq_true rfl) (by decide) (by omega) zns100 (q := 15) rfl ?_
      refine zIf_ne d_X12_byTurns_15 (tgt := 20) (q := 18) (by decide) rfl (fun h => absurd h (not_not_intro (bi_f (fun z => hc ⟨bi_n0.mp h6, z⟩)))) (fun h15 => ?_)
      refine zIconst d_X12_byTurns_18 (v := -1) ic_m1 (q := 19) rfl ?_
      refine zIret d_X12_byTurns_19 rfl rfl rfl ?_
      exact zPi rfl
end S55

