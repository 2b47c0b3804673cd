theorem d_X12_asPart_0 : decode (zmc m_X12_asPart) 0 = .ok (.lload_n 0, 1) := by decide +kernel
theorem d_X12_asPart_1 : decode (zmc m_X12_asPart) 1 = .ok (.lconst 0, 1) := by decide +kernel
theorem d_X12_asPart_2 : decode (zmc m_X12_asPart) 2 = .ok (.lcmp, 1) := by decide +kernel
theorem d_X12_asPart_3 : decode (zmc m_X12_asPart) 3 = .ok (.ifCond .ne 7, 3) := by decide +kernel
theorem d_X12_asPart_6 : decode (zmc m_X12_asPart) 6 = .ok (.iload 4, 2) := by decide +kernel
theorem d_X12_asPart_8 : decode (zmc m_X12_asPart) 8 = .ok (.i2l, 1) := by decide +kernel
theorem d_X12_asPart_9 : decode (zmc m_X12_asPart) 9 = .ok (.lreturn, 1) := by decide +kernel
theorem d_X12_asPart_10 : decode (zmc m_X12_asPart) 10 = .ok (.lload_n 0, 1) := by decide +kernel
theorem d_X12_asPart_11 : decode (zmc m_X12_asPart) 11 = .ok (.lstore 5, 2) := by decide +kernel
theorem d_X12_asPart_13 : decode (zmc m_X12_asPart) 13 = .ok (.lload_n 2, 1) := by decide +kernel
theorem d_X12_asPart_14 : decode (zmc m_X12_asPart) 14 = .ok (.lstore 7, 2) := by decide +kernel
theorem d_X12_asPart_16 : decode (zmc m_X12_asPart) 16 = .ok (.lload 7, 2) := by decide +kernel
theorem d_X12_asPart_18 : decode (zmc m_X12_asPart) 18 = .ok (.lconst 0, 1) := by decide +kernel
theorem d_X12_asPart_19 : decode (zmc m_X12_asPart) 19 = .ok (.lcmp, 1) := by decide +kernel
theorem d_X12_asPart_20 : decode (zmc m_X12_asPart) 20 = .ok (.ifCond .eq 21, 3) := by decide +kernel
theorem d_X12_asPart_23 : decode (zmc m_X12_asPart) 23 = .ok (.lload 5, 2) := by decide +kernel
theorem d_X12_asPart_25 : decode (zmc m_X12_asPart) 25 = .ok (.lload 7, 2) := by decide +kernel
theorem d_X12_asPart_27 : decode (zmc m_X12_asPart) 27 = .ok (.lrem, 1) := by decide +kernel
theorem d_X12_asPart_28 : decode (zmc m_X12_asPart) 28 = .ok (.lstore 9, 2) := by decide +kernel
theorem d_X12_asPart_30 : decode (zmc m_X12_asPart) 30 = .ok (.lload 7, 2) := by decide +kernel
theorem d_X12_asPart_32 : decode (zmc m_X12_asPart) 32 = .ok (.lstore 5, 2) := by decide +kernel
theorem d_X12_asPart_34 : decode (zmc m_X12_asPart) 34 = .ok (.lload 9, 2) := by decide +kernel
theorem d_X12_asPart_36 : decode (zmc m_X12_asPart) 36 = .ok (.lstore 7, 2) := by decide +kernel
theorem d_X12_asPart_38 : decode (zmc m_X12_asPart) 38 = .ok (.goto (-22), 3) := by decide +kernel
theorem d_X12_asPart_41 : decode (zmc m_X12_asPart) 41 = .ok (.iload 4, 2) := by decide +kernel
theorem d_X12_asPart_43 : decode (zmc m_X12_asPart) 43 = .ok (.ifCond .ne 10, 3) := by decide +kernel
theorem d_X12_asPart_46 : decode (zmc m_X12_asPart) 46 = .ok (.lload_n 0, 1) := by decide +kernel
theorem d_X12_asPart_47 : decode (zmc m_X12_asPart) 47 = .ok (.lload 5, 2) := by decide +kernel
theorem d_X12_asPart_49 : decode (zmc m_X12_asPart) 49 = .ok (.ldiv, 1) := by decide +kernel
theorem d_X12_asPart_50 : decode (zmc m_X12_asPart) 50 = .ok (.goto 7, 3) := by decide +kernel
theorem d_X12_asPart_53 : decode (zmc m_X12_asPart) 53 = .ok (.lload_n 2, 1) := by decide +kernel
theorem d_X12_asPart_54 : decode (zmc m_X12_asPart) 54 = .ok (.lload 5, 2) := by decide +kernel
theorem d_X12_asPart_56 : decode (zmc m_X12_asPart) 56 = .ok (.ldiv, 1) := by decide +kernel
theorem d_X12_asPart_57 : decode (zmc m_X12_asPart) 57 = .ok (.lreturn, 1) := by decide +kernel
theorem d_X12_planOdds_0 : decode (zmc m_X12_planOdds) 0 = .ok (.aload_n 0, 1) := by decide +kernel
theorem d_X12_planOdds_1 : decode (zmc m_X12_planOdds) 1 = .ok (.aload_n 0, 1) := by decide +kernel
theorem d_X12_planOdds_2 : decode (zmc m_X12_planOdds) 2 = .ok (.getfield 80, 3) := by decide +kernel
theorem d_X12_planOdds_5 : decode (zmc m_X12_planOdds) 5 = .ok (.iload_n 1, 1) := by decide +kernel
theorem d_X12_planOdds_6 : decode (zmc m_X12_planOdds) 6 = .ok (.iaload, 1) := by decide +kernel
theorem d_X12_planOdds_7 : decode (zmc m_X12_planOdds) 7 = .ok (.aload_n 0, 1) := by decide +kernel
theorem d_X12_planOdds_8 : decode (zmc m_X12_planOdds) 8 = .ok (.getfield 83, 3) := by decide +kernel
theorem d_X12_planOdds_11 : decode (zmc m_X12_planOdds) 11 = .ok (.iload_n 1, 1) := by decide +kernel
theorem d_X12_planOdds_12 : decode (zmc m_X12_planOdds) 12 = .ok (.iaload, 1) := by decide +kernel
theorem d_X12_planOdds_13 : decode (zmc m_X12_planOdds) 13 = .ok (.aload_n 0, 1) := by decide +kernel
theorem d_X12_planOdds_14 : decode (zmc m_X12_planOdds) 14 = .ok (.getfield 86, 3) := by decide +kernel
theorem d_X12_planOdds_17 : decode (zmc m_X12_planOdds) 17 = .ok (.iload_n 1, 1) := by decide +kernel
theorem d_X12_planOdds_18 : decode (zmc m_X12_planOdds) 18 = .ok (.iaload, 1) := by decide +kernel
theorem d_X12_planOdds_19 : decode (zmc m_X12_planOdds) 19 = .ok (.invokevirtual 264, 3) := by decide +kernel
theorem d_X12_planOdds_22 : decode (zmc m_X12_planOdds) 22 = .ok (.ireturn, 1) := by decide +kernel
/-! THE REFERENCE: fractions -/
theorem lN0 : lN 0 = 0 := rfl
theorem lNne {q : Nat} (h : q < 2 ^ 62) (h0 : ¬ q = 0) : ¬ lN q = 0 := fun z => h0 ((pk_lEQ (b := 0) (by omega) (by decide)).mp z)
theorem zGcd_N : ∀ (k n p q : Nat), q < 2 ^ k → 2 * k + 1 ≤ n → p < 2 ^ 62 → q < 2 ^ 62 → zGcd n (lN p) (lN q) = lN (Nat.gcd p q)
  | 0, n, p, q, hq, hn, _, _ => by
    have e : q = 0 := by omega
    subst e
    obtain ⟨m, rfl⟩ : ∃ m, n = m + 1 := ⟨n - 1, by omega⟩
    show (if lN 0 = 0 then _ else _) = _
    rw [if_pos lN0, Nat.gcd_zero_right]
  | k + 1, n, p, q, hq, hn, hp, hq2 => by
    obtain ⟨m, rfl⟩ : ∃ m, n = m + 1 + 1 := ⟨n - 2, by omega⟩
    show (if lN q = 0 then _ else _) = _
    by_cases q0 : q = 0
    · subst q0; rw [if_pos lN0, Nat.gcd_zero_right]
    · have hq0 : 0 < q := by omega
      rw [if_neg (lNne hq2 q0), pk_lRem (by omega) hq0 (by omega)]
      have hr := Nat.mod_lt p hq0
      show (if lN (p % q) = 0 then _ else _) = _
      by_cases r0 : p % q = 0
      · rw [r0, if_pos lN0]
        congr 1
        rw [Nat.gcd_comm, Nat.gcd_rec q p, r0, Nat.gcd_zero_left]
      · have hr0 : 0 < p % q := by omega
        rw [if_neg (lNne (by omega) r0), pk_lRem (by omega) hr0 (by omega)]
        have h3 := Nat.mod_lt q hr0
        have h4 : q % (p % q) + p % q ≤ q := by
          have := Nat.div_add_mod q (p % q)
          have h5 : 1 ≤ q / (p % q) := Nat.div_pos (by omega) hr0
          have h6 : p % q * 1 ≤ p % q * (q / (p % q)) := Nat.mul_le_mul_left _ h5
          omega
        rw [zGcd_N k m (p % q) (q % (p % q)) (by rw [Nat.pow_succ] at hq; omega) (by omega) (by omega) (by omega)]
        congr 1
        exact ((Nat.gcd_comm p q).trans ((Nat.gcd_rec q p).trans ((Nat.gcd_rec (p % q) q).trans (Nat.gcd_comm _ _)))).symm
section S62
variable {g : zG} {l : Launch} {d : Nat} {I V : Nat → Nat → Int32} {L K : Nat → Nat → Int64} {fs : Nat × Nat × Option Nat} {ns nt nh nb : Nat} {pg : Option (List zLine)}
theorem sp_X12_asPart (hd : 1 ≤ d) {p q : Nat} (hp : p < 2 ^ 45) (hq : q < 2 ^ 45) (hq0 : 0 < q) {w : Int32} (hw : w = 0 ∨ w = 1) : zPure g l d m_X12_asPart [.long (lN p), .long (lN q), .int w] I L fs (.long (zPart (lN p) (lN q) w)) := by
  have hg0 : 0 < Nat.gcd p q := Nat.gcd_pos_of_pos_right p hq0
  have hgl : Nat.gcd p q ≤ q := Nat.gcd_le_right p hq0
  have eG : zGcd 100 (lN p) (lN q) = lN (Nat.gcd p q) := zGcd_N 45 100 p q hq (by decide) (by omega) (by omega)
  have hgn : ¬ lN (Nat.gcd p q) = 0 := fun z => by have := (pk_lEQ (b := 0) (by omega) (by decide)).mp z; omega
  have eP : zPart (lN p) (lN q) w = (if w = 0 then lN p else lN q) / lN (Nat.gcd p q) := by unfold zPart; rw [eG, if_neg hgn]
  have loop : ∀ (y x : Nat), x < 2 ^ 45 → y < 2 ^ 45 → Nat.gcd x y = Nat.gcd p q → zA g l d m_X12_asPart I L fs 16 [(7, .long (lN y)), (5, .long (lN x)), (0, .long (lN p)), (2, .long (lN q)), (4, .int w)] (zP (.long (zPart (lN p) (lN q) w)) (zU I L fs)) := by
    intro y
    induction y using Nat.strongRecOn with
    | ind y ih =>
      intro x hx hy hg
      refine zLload d_X12_asPart_16 rfl (q := 18) rfl ?_
      refine zLconst d_X12_asPart_18 (v := 0) rfl (q := 19) rfl ?_
      refine zLcmp d_X12_asPart_19 (q := 20) rfl ?_
      refine zIf_eq d_X12_asPart_20 (tgt := 41) (q := 23) (by decide) rfl (fun h20 => ?_) (fun h20 => ?_)
      · have e : y = 0 := (pk_lEQ (b := 0) (by omega) (by decide)).mp ((lg_cmp_eq _ _).mp h20)
        subst e
        rw [Nat.gcd_zero_right] at hg
        subst hg
        refine zIload d_X12_asPart_41 rfl (q := 43) rfl ?_
        refine zIf_ne d_X12_asPart_43 (tgt := 53) (q := 46) (by decide) rfl (fun h43 => ?_) (fun h43 => ?_)
        · refine zLloadN d_X12_asPart_53 rfl rfl (q := 54) rfl ?_
          refine zLload d_X12_asPart_54 rfl (q := 56) rfl ?_
          refine zLdiv d_X12_asPart_56 hgn (q := 57) rfl ?_
          refine zLret d_X12_asPart_57 rfl rfl ?_
          first
          | exact zPl (by rw [eP, if_pos h43])
          | exact zPl (by rw [eP, if_neg h43])
        · refine zLloadN d_X12_asPart_46 rfl rfl (q := 47) rfl ?_
          refine zLload d_X12_asPart_47 rfl (q := 49) rfl ?_
          refine zLdiv d_X12_asPart_49 hgn (q := 50) rfl ?_
          refine zGoto d_X12_asPart_50 (q := 57) (by decide) ?_
          refine zLret d_X12_asPart_57 rfl rfl ?_
          first
          | exact zPl (by rw [eP, if_pos h43])
          | exact zPl (by rw [eP, if_neg h43])
      · have hy0 : ¬ lN y = 0 := fun z => h20 ((lg_cmp_eq _ _).mpr z)
        have hyp : 0 < y := by rcases Nat.eq_zero_or_pos y with z | z; exact absurd (by rw [z]; rfl) hy0; exact z
        refine zLload d_X12_asPart_23 rfl (q := 25) rfl ?_
        refine zLload d_X12_asPart_25 rfl (q := 27) rfl ?_
        refine zLrem d_X12_asPart_27 hy0 (q := 28) rfl ?_
        rw [pk_lRem (by omega) hyp (by omega)]
        refine zLstore d_X12_asPart_28 (by decide) rfl (q := 30) rfl ?_
        refine zLload d_X12_asPart_30 rfl (q := 32) rfl ?_
        refine zLstore d_X12_asPart_32 (by decide) rfl (q := 34) rfl ?_
        refine zLload d_X12_asPart_34 rfl (q := 36) rfl ?_
        refine zLstore d_X12_asPart_36 (by decide) rfl (q := 38) rfl ?_
        refine zGoto d_X12_asPart_38 (q := 16) (by decide) ?_
        refine zSub [0, 1, 3, 4, 5] rfl ?_
        exact ih (x % y) (Nat.mod_lt _ hyp) y hy (by have := Nat.mod_lt x hyp; omega) (by rw [← hg, Nat.gcd_comm x y, Nat.gcd_rec y x, Nat.gcd_comm])
  refine zSp_of (lv := [(0, .long (lN p)), (2, .long (lN q)), (4, .int w)]) k_X12_asPart rfl (Nat.le_of_ble_eq_true rfl) ?_
  refine zLloadN d_X12_asPart_0 rfl rfl (q := 1) rfl ?_
  refine zLconst d_X12_asPart_1 (v := 0) rfl (q := 2) rfl ?_
  refine zLcmp d_X12_asPart_2 (q := 3) rfl ?_
  refine zIf_ne d_X12_asPart_3 (tgt := 10) (q := 6) (by decide) rfl (fun h3 => ?_) (fun h3 => ?_)
  · refine zLloadN d_X12_asPart_10 rfl rfl (q := 11) rfl ?_
    refine zLstore d_X12_asPart_11 (by decide) rfl (q := 13) rfl ?_
    refine zLloadN d_X12_asPart_13 rfl rfl (q := 14) rfl ?_
    refine zLstore d_X12_asPart_14 (by decide) rfl (q := 16) rfl ?_
    refine zSub [0, 1, 2, 3, 4] rfl ?_
    exact loop q p hp hq rfl
  · have e : p = 0 := (pk_lEQ (b := 0) (by omega) (by decide)).mp ((lg_cmp_eq _ _).mp h3)
    have eg : Nat.gcd p q = q := by rw [e, Nat.gcd_zero_left]
    refine zIload d_X12_asPart_6 rfl (q := 8) rfl ?_
    refine zI2l d_X12_asPart_8 (q := 9) rfl ?_
    refine zLret d_X12_asPart_9 rfl rfl ?_
    rcases hw with rfl | rfl
    · exact zPl (by rw [eP, if_pos rfl, eg, pk_lDiv (by omega) hq0 (by omega), e, Nat.zero_div]; rfl)
    · exact zPl (by rw [eP, if_neg (by decide), eg, pk_lDiv (by omega) hq0 (by omega), Nat.div_self hq0]; rfl)
theorem yPJ_same {r n : Nat} {J J' : Nat → Nat → Int32} (h : ∀ a, a ≠ 85 → a ≠ 86 → J' a = J a) (hJ : yPJ I V K ns nt r n J) : yPJ I V K ns nt r n J' := by
  obtain ⟨h1, ⟨h2, h3⟩, h4, h5⟩ := hJ
  refine ⟨zScr_trans h1 ⟨fun a q1 q2 => h a (by omega) (by omega), fun k _ _ => by rw [h 64 (by decide) (by decide)]⟩, ⟨by rw [h 64 (by decide) (by decide)]; exact h2, by rw [h 64 (by decide) (by decide)]; exact h3⟩, fun b hb => by rw [h 90 (by decide) (by decide)]; exact h4 b hb, fun i hi => ?_⟩
  rw [h 87 (by decide) (by decide), h 88 (by decide) (by decide), h 89 (by decide) (by decide)]
  exact h5 i hi
theorem sp_X12_planOdds (hd : 5 ≤ d) (hM : zMs I V) (hK : zSky V ns nt nh) (hl : zMl I pg) {r n k : Nat} {J : Nat → Nat → Int32} (hJ : yPJ I V K ns nt r n J) (hn : n ≤ 10) (hk : k < n) (hok : zPok V K ns nt nh r k = true) : zSp g l d 100 m_X12_planOdds [.ref 64, .int (nI k)] (zU J L fs) (zX (fun x w => x = zPod V K ns r pg k ∧ ∃ J', w = zU J' L fs ∧ yPJ I V K ns nt r n J')) := by
  have hs := hK.2.1
  have hnt := hK.2.2.1
  obtain ⟨h1, -, -, h5⟩ := id hJ
  obtain ⟨e1, e2, e3⟩ := h5 k hk
  obtain ⟨⟨hw, hb⟩, -⟩ := zPok_iff.mp hok
  obtain ⟨t, ht, et⟩ := zn1 (x := zPb V K r k) (n := nt) (by omega) hb.1 hb.2
  obtain ⟨s, hs1, es⟩ := zn1 (x := zPw V K r k) (n := ns) (by omega) hw.1 hw.2
  have eo : zPod V K ns r pg k = zOdds pg (zEn V s t (zPmin V K ns r k)) := by unfold zPod; rw [es, et, zcl_n (by omega), zcl_n (by omega)]
  rw [eo]
  refine zSp_of (lv := [(0, .ref 64), (1, .int (nI k))]) k_X12_planOdds rfl (Nat.le_of_ble_eq_true rfl) ?_
  refine zAloadN d_X12_planOdds_0 rfl rfl (q := 1) rfl ?_
  refine zAloadN d_X12_planOdds_1 rfl rfl (q := 2) rfl ?_
  refine zGetR d_X12_planOdds_2 ff_X12_80 sh_64 (by decide) r_64_35 (q := 5) rfl ?_
  refine zIloadN d_X12_planOdds_5 rfl rfl (q := 6) rfl ?_
  refine zIald d_X12_planOdds_6 sh_87 (by decide) rfl (by omega) (q := 7) rfl ?_
  refine zAloadN d_X12_planOdds_7 rfl rfl (q := 8) rfl ?_
  refine zGetR d_X12_planOdds_8 ff_X12_83 sh_64 (by decide) r_64_36 (q := 11) rfl ?_
  refine zIloadN d_X12_planOdds_11 rfl rfl (q := 12) rfl ?_
  refine zIald d_X12_planOdds_12 sh_88 (by decide) rfl (by omega) (q := 13) rfl ?_
  refine zAloadN d_X12_planOdds_13 rfl rfl (q := 14) rfl ?_
  refine zGetR d_X12_planOdds_14 ff_X12_86 sh_64 (by decide) r_64_37 (q := 17) rfl ?_
  refine zIloadN d_X12_planOdds_17 rfl rfl (q := 18) rfl ?_
  refine zIald d_X12_planOdds_18 sh_89 (by decide) rfl (by omega) (q := 19) rfl ?_
  rw [e1, e2, e3, es, et]
  refine zCallVX d_X12_planOdds_19 ml_X12_264 k_X12_oddsBy ki_X12_oddsBy ks_X12_oddsBy (sp_X12_oddsBy (d := d - 1) (by omega) (zScr_s h1 hM) (zScr_l h1 hl) (by omega) (by omega)) rfl rfl sh_64 (by decide) rfl (by decide) (Nat.le_of_ble_eq_true rfl) (by decide) (by omega) zns100 (q := 22) rfl (fun x w' hw' => ?_)
  obtain ⟨rfl, J', rfl, hJ'⟩ := hw'
  refine zIret d_X12_planOdds_22 rfl rfl rfl ?_
  exact ⟨_, rfl, rfl, J', rfl, yPJ_same hJ' hJ⟩
theorem zPn_ok {r : Nat} : ∀ i, i < zPn V K ns nt nh r → zPok V K ns nt nh r i = true := fun i hi => (zrun_spec (zPok V K ns nt nh r) 10 0 (Nat.zero_le _)).2.2.1 i (Nat.zero_le _) hi
theorem zPn_le {r : Nat} : zPn V K ns nt nh r ≤ 10 := (zrun_spec (zPok V K ns nt nh r) 10 0 (Nat.zero_le _)).2.1
theorem zPod_in {r k : Nat} : ∃ v, v ≤ 12 ∧ zPod V K ns r pg k = nI v := by
  have h : ∀ z : Int32, 0 ≤ zClmp z ∧ zClmp z ≤ 12 := by intro z; unfold zClmp; grind
  have h1 : 0 ≤ zPod V K ns r pg k ∧ zPod V K ns r pg k ≤ 12 := h _
  obtain ⟨v, hv, e⟩ := zn1 (x := zPod V K ns r pg k) (n := 13) (by omega) h1.1 (by have := h1.2; have e13 : nI 13 = 13 := rfl; grind)
  exact ⟨v, by omega, e⟩
theorem zMul_N {O : Nat → Int32} (hO : ∀ k, ∃ v, v ≤ 12 ∧ O k = nI v) (n : Nat) : ∀ k, k ≤ n → ∀ a, a ≤ 12 ^ k → ∃ b, b ≤ 12 ^ n ∧ zfor (fun k s => s * (O k).toInt64) n k (lN a) = lN b := by
  refine zloop n (fun k hk ih a ha => ?_)
  rcases Nat.eq_or_lt_of_le hk with rfl | hlt
  · exact ⟨a, ha, zfor_end (Nat.le_refl _)⟩
  · obtain ⟨v, hv, e⟩ := hO k
    rw [zfor_step hlt, e, nI_l (by omega), lN_mul]
    exact ih hlt (a * v) (by rw [Nat.pow_succ]; exact Nat.mul_le_mul ha hv)
theorem zTwl_N (n : Nat) : ∀ k, k ≤ n → zfor (fun _ s => s * (12 : Int64)) n k (lN (12 ^ k)) = lN (12 ^ n) := by
  refine zloop n (fun k hk ih => ?_)
  rcases Nat.eq_or_lt_of_le hk with rfl | hlt
  · exact zfor_end (Nat.le_refl _)
  · rw [zfor_step hlt, show (12 : Int64) = lN 12 from rfl, lN_mul, ← Nat.pow_succ]
    exact ih hlt
theorem zSum_N {O : Nat → Int32} (hO : ∀ k, ∃ v, v ≤ 12 ∧ O k = nI v) (n : Nat) : ∀ k, k ≤ n → ∀ a, a ≤ 12 * k → ∃ b, b ≤ 12 * n ∧ zfor (fun k s => s + (O k).toInt64) n k (lN a) = lN b := by
  refine zloop n (fun k hk ih a ha => ?_)
  rcases Nat.eq_or_lt_of_le hk with rfl | hlt
  · exact ⟨a, ha, zfor_end (Nat.le_refl _)⟩
  · obtain ⟨v, hv, e⟩ := hO k
    rw [zfor_step hlt, e, nI_l (by omega), lN_add]
    exact ih hlt (a + v) (by omega)
end S62

