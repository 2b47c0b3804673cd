theorem d_X11_starCame_0 : decode (zmc m_X11_starCame) 0 = .ok (.aload_n 1, 1) := by decide +kernel
theorem d_X11_starCame_1 : decode (zmc m_X11_starCame) 1 = .ok (.iload_n 2, 1) := by decide +kernel
theorem d_X11_starCame_2 : decode (zmc m_X11_starCame) 2 = .ok (.invokevirtual 335, 3) := by decide +kernel
theorem d_X11_starCame_5 : decode (zmc m_X11_starCame) 5 = .ok (.ifCond .ne 5, 3) := by decide +kernel
theorem d_X11_starCame_8 : decode (zmc m_X11_starCame) 8 = .ok (.iconst 0, 1) := by decide +kernel
theorem d_X11_starCame_9 : decode (zmc m_X11_starCame) 9 = .ok (.ireturn, 1) := by decide +kernel
theorem d_X11_starCame_10 : decode (zmc m_X11_starCame) 10 = .ok (.iload_n 2, 1) := by decide +kernel
theorem d_X11_starCame_11 : decode (zmc m_X11_starCame) 11 = .ok (.iconst 3, 1) := by decide +kernel
theorem d_X11_starCame_12 : decode (zmc m_X11_starCame) 12 = .ok (.iload_n 3, 1) := by decide +kernel
theorem d_X11_starCame_13 : decode (zmc m_X11_starCame) 13 = .ok (.imul, 1) := by decide +kernel
theorem d_X11_starCame_14 : decode (zmc m_X11_starCame) 14 = .ok (.iadd, 1) := by decide +kernel
theorem d_X11_starCame_15 : decode (zmc m_X11_starCame) 15 = .ok (.istore 4, 2) := by decide +kernel
theorem d_X11_starCame_17 : decode (zmc m_X11_starCame) 17 = .ok (.aload_n 0, 1) := by decide +kernel
theorem d_X11_starCame_18 : decode (zmc m_X11_starCame) 18 = .ok (.getfield 10, 3) := by decide +kernel
theorem d_X11_starCame_21 : decode (zmc m_X11_starCame) 21 = .ok (.aload_n 1, 1) := by decide +kernel
theorem d_X11_starCame_22 : decode (zmc m_X11_starCame) 22 = .ok (.iload 4, 2) := by decide +kernel
theorem d_X11_starCame_24 : decode (zmc m_X11_starCame) 24 = .ok (.invokevirtual 383, 3) := by decide +kernel
theorem d_X11_starCame_27 : decode (zmc m_X11_starCame) 27 = .ok (.aload_n 1, 1) := by decide +kernel
theorem d_X11_starCame_28 : decode (zmc m_X11_starCame) 28 = .ok (.iload 4, 2) := by decide +kernel
theorem d_X11_starCame_30 : decode (zmc m_X11_starCame) 30 = .ok (.iconst 1, 1) := by decide +kernel
theorem d_X11_starCame_31 : decode (zmc m_X11_starCame) 31 = .ok (.iadd, 1) := by decide +kernel
theorem d_X11_starCame_32 : decode (zmc m_X11_starCame) 32 = .ok (.invokevirtual 383, 3) := by decide +kernel
theorem d_X11_starCame_35 : decode (zmc m_X11_starCame) 35 = .ok (.aload_n 1, 1) := by decide +kernel
theorem d_X11_starCame_36 : decode (zmc m_X11_starCame) 36 = .ok (.iload 4, 2) := by decide +kernel
theorem d_X11_starCame_38 : decode (zmc m_X11_starCame) 38 = .ok (.iconst 2, 1) := by decide +kernel
theorem d_X11_starCame_39 : decode (zmc m_X11_starCame) 39 = .ok (.iadd, 1) := by decide +kernel
theorem d_X11_starCame_40 : decode (zmc m_X11_starCame) 40 = .ok (.invokevirtual 383, 3) := by decide +kernel
theorem d_X11_starCame_43 : decode (zmc m_X11_starCame) 43 = .ok (.invokevirtual 91, 3) := by decide +kernel
theorem d_X11_starCame_46 : decode (zmc m_X11_starCame) 46 = .ok (.ifCond .lt 7, 3) := by decide +kernel
theorem d_X11_starCame_49 : decode (zmc m_X11_starCame) 49 = .ok (.iconst 1, 1) := by decide +kernel
theorem d_X11_starCame_50 : decode (zmc m_X11_starCame) 50 = .ok (.goto 4, 3) := by decide +kernel
theorem d_X11_starCame_53 : decode (zmc m_X11_starCame) 53 = .ok (.iconst 0, 1) := by decide +kernel
theorem d_X11_starCame_54 : decode (zmc m_X11_starCame) 54 = .ok (.ireturn, 1) := by decide +kernel
theorem d_X11_stars_0 : decode (zmc m_X11_stars) 0 = .ok (.aload_n 0, 1) := by decide +kernel
theorem d_X11_stars_1 : decode (zmc m_X11_stars) 1 = .ok (.iload_n 1, 1) := by decide +kernel
theorem d_X11_stars_2 : decode (zmc m_X11_stars) 2 = .ok (.invokevirtual 95, 3) := by decide +kernel
theorem d_X11_stars_5 : decode (zmc m_X11_stars) 5 = .ok (.astore 4, 2) := by decide +kernel
theorem d_X11_stars_7 : decode (zmc m_X11_stars) 7 = .ok (.aload 4, 2) := by decide +kernel
theorem d_X11_stars_9 : decode (zmc m_X11_stars) 9 = .ok (.ifnull 14, 3) := by decide +kernel
theorem d_X11_stars_12 : decode (zmc m_X11_stars) 12 = .ok (.iload_n 3, 1) := by decide +kernel
theorem d_X11_stars_13 : decode (zmc m_X11_stars) 13 = .ok (.iconst 1, 1) := by decide +kernel
theorem d_X11_stars_14 : decode (zmc m_X11_stars) 14 = .ok (.if_icmp .lt 9, 3) := by decide +kernel
theorem d_X11_stars_17 : decode (zmc m_X11_stars) 17 = .ok (.iload_n 3, 1) := by decide +kernel
theorem d_X11_stars_18 : decode (zmc m_X11_stars) 18 = .ok (.bipush 10, 2) := by decide +kernel
theorem d_X11_stars_20 : decode (zmc m_X11_stars) 20 = .ok (.if_icmp .le 5, 3) := by decide +kernel
theorem d_X11_stars_23 : decode (zmc m_X11_stars) 23 = .ok (.iconst (-1), 1) := by decide +kernel
theorem d_X11_stars_24 : decode (zmc m_X11_stars) 24 = .ok (.ireturn, 1) := by decide +kernel
theorem d_X11_stars_25 : decode (zmc m_X11_stars) 25 = .ok (.aload 4, 2) := by decide +kernel
theorem d_X11_stars_27 : decode (zmc m_X11_stars) 27 = .ok (.invokevirtual 99, 3) := by decide +kernel
theorem d_X11_stars_30 : decode (zmc m_X11_stars) 30 = .ok (.ifCond .eq 5, 3) := by decide +kernel
theorem d_X11_stars_33 : decode (zmc m_X11_stars) 33 = .ok (.iconst 0, 1) := by decide +kernel
theorem d_X11_stars_34 : decode (zmc m_X11_stars) 34 = .ok (.ireturn, 1) := by decide +kernel
theorem d_X11_stars_35 : decode (zmc m_X11_stars) 35 = .ok (.aload 4, 2) := by decide +kernel
theorem d_X11_stars_37 : decode (zmc m_X11_stars) 37 = .ok (.invokevirtual 103, 3) := by decide +kernel
theorem d_X11_stars_40 : decode (zmc m_X11_stars) 40 = .ok (.ifCond .ne 6, 3) := by decide +kernel
theorem d_X11_stars_43 : decode (zmc m_X11_stars) 43 = .ok (.bipush (-12), 2) := by decide +kernel
theorem d_X11_stars_45 : decode (zmc m_X11_stars) 45 = .ok (.ireturn, 1) := by decide +kernel
theorem d_X11_stars_46 : decode (zmc m_X11_stars) 46 = .ok (.iconst 0, 1) := by decide +kernel
theorem d_X11_stars_47 : decode (zmc m_X11_stars) 47 = .ok (.istore 5, 2) := by decide +kernel
theorem d_X11_stars_49 : decode (zmc m_X11_stars) 49 = .ok (.iload 5, 2) := by decide +kernel
theorem d_X11_stars_51 : decode (zmc m_X11_stars) 51 = .ok (.iload_n 3, 1) := by decide +kernel
theorem d_X11_stars_52 : decode (zmc m_X11_stars) 52 = .ok (.if_icmp .ge 21, 3) := by decide +kernel
theorem d_X11_stars_55 : decode (zmc m_X11_stars) 55 = .ok (.aload_n 0, 1) := by decide +kernel
theorem d_X11_stars_56 : decode (zmc m_X11_stars) 56 = .ok (.aload 4, 2) := by decide +kernel
theorem d_X11_stars_58 : decode (zmc m_X11_stars) 58 = .ok (.iload_n 2, 1) := by decide +kernel
theorem d_X11_stars_59 : decode (zmc m_X11_stars) 59 = .ok (.iload 5, 2) := by decide +kernel
theorem d_X11_stars_61 : decode (zmc m_X11_stars) 61 = .ok (.invokevirtual 106, 3) := by decide +kernel
theorem d_X11_stars_64 : decode (zmc m_X11_stars) 64 = .ok (.ifCond .eq 9, 3) := by decide +kernel
theorem d_X11_stars_67 : decode (zmc m_X11_stars) 67 = .ok (.iinc 5 1, 3) := by decide +kernel
theorem d_X11_stars_70 : decode (zmc m_X11_stars) 70 = .ok (.goto (-21), 3) := by decide +kernel
theorem d_X11_stars_73 : decode (zmc m_X11_stars) 73 = .ok (.iload 5, 2) := by decide +kernel
theorem d_X11_stars_75 : decode (zmc m_X11_stars) 75 = .ok (.ireturn, 1) := by decide +kernel
/-! STARS OUT OF A ROW -/
def zT3 (I : Nat → Nat → Int32) (L : Nat → Nat → Int64) (r : Nat) (p : Int32) (k : Nat) : Int32 × Int32 × Int32 := (zTold I L r (p + 3 * nI k), zTold I L r (p + 3 * nI k + 1), zTold I L r (p + 3 * nI k + 2))
/-- stars come out of a row: how many came, how many there are behind it, the world -/
def zStrs (L : Nat → Nat → Int64) (r : Nat) (p : Int32) : Nat → Nat → Nat → (Nat → Nat → Int32) → Nat × Nat × (Nat → Nat → Int32)
  | 0, k, ns, I => (k, ns, I)
  | f + 1, k, ns, I => if (0 ≤ p ∧ p < I r 2) ∧ 0 ≤ (zAdd I ns (zT3 I L r p k).1 (zT3 I L r p k).2.1 (zT3 I L r p k).2.2).1 then zStrs L r p f (k + 1) (ns + 1) (zAdd I ns (zT3 I L r p k).1 (zT3 I L r p k).2.1 (zT3 I L r p k).2.2).2 else (k, ns, I)
section S38
variable {g : zG} {l : Launch} {d : Nat} {I : Nat → Nat → Int32} {L : Nat → Nat → Int64} {fs : Nat × Nat × Option Nat} {ns nt nh : Nat}
theorem zAdd_0 {c b s : Int32} (h : ¬ 0 ≤ (zAdd I ns c b s).1) : (zAdd I ns c b s).2 = I := by
  unfold zAdd at h ⊢
  split
  · rfl
  · split
    · rfl
    · split
      · rfl
      · rename_i h1 h2 h3
        rw [if_neg h1, if_neg h2, if_neg h3] at h
        exact absurd ((nI_leI (a := 0) (b := ns) (by decide) (by omega)).mpr (Nat.zero_le _)) h
theorem zAdd_1 (hK : zSky I ns nt nh) {c b s : Int32} (h : 0 ≤ (zAdd I ns c b s).1) : ns < 10 ∧ (zAdd I ns c b s).2 = zStarI I ns c b s ∧ zSky (zStarI I ns c b s) (ns + 1) nt nh ∧ ∀ a, 42 ≤ a → zStarI I ns c b s a = I a := by
  unfold zAdd at h ⊢
  by_cases h1 : ¬ (zMay 0 c ∧ zMay 1 b ∧ zMay 2 s)
  · rw [if_pos h1] at h; exact absurd (show (0 : Int32) ≤ -1 from h) (by decide)
  · rw [if_neg h1] at h ⊢
    by_cases h2 : ¬ zfind (I 3) c ns 0 = -2
    · rw [if_pos h2] at h; exact absurd (show (0 : Int32) ≤ -1 from h) (by decide)
    · rw [if_neg h2] at h ⊢
      by_cases h3 : 10 ≤ ns
      · rw [if_pos h3] at h; exact absurd (show (0 : Int32) ≤ -3 from h) (by decide)
      · rw [if_neg h3]
        refine ⟨by omega, rfl, ?_, fun a ha => ?_⟩
        · unfold zStarI
          exact zSky_up (zSky_up (zSky_up (zSky_up (zSky_stars hK (by omega)) (by decide)) (by decide)) (by decide)) (by decide)
        · unfold zStarI
          rw [zup_ne (by omega), zup_ne (by omega), zup_ne (by omega), zup_ne (by omega), zup_ne (by omega)]
theorem sp_X11_starCame (hd : 5 ≤ d) (hK : zSky I ns nt nh) {k m j : Nat} {p : Int32} (hk : k < 6) (hm : I (42 + 2 * k) 2 = nI m) (hm2 : m ≤ 60) : zSp g l d 100 m_X11_starCame [.ref 0, .ref (42 + 2 * k), .int p, .int (nI j)] (zU I L fs) (zX (fun x w =>
    (x = 0 ∧ ¬ ((0 ≤ p ∧ p < I (42 + 2 * k) 2) ∧ 0 ≤ (zAdd I ns (zT3 I L (42 + 2 * k) p j).1 (zT3 I L (42 + 2 * k) p j).2.1 (zT3 I L (42 + 2 * k) p j).2.2).1) ∧ w = zU I L fs) ∨
    (x = 1 ∧ ((0 ≤ p ∧ p < I (42 + 2 * k) 2) ∧ 0 ≤ (zAdd I ns (zT3 I L (42 + 2 * k) p j).1 (zT3 I L (42 + 2 * k) p j).2.1 (zT3 I L (42 + 2 * k) p j).2.2).1) ∧ w = zU (zAdd I ns (zT3 I L (42 + 2 * k) p j).1 (zT3 I L (42 + 2 * k) p j).2.1 (zT3 I L (42 + 2 * k) p j).2.2).2 L fs))) := by
  have hh := zshf hk
  refine zSp_of (lv := [(0, .ref 0), (1, .ref (42 + 2 * k)), (2, .int p), (3, .int (nI j))]) k_X11_starCame rfl (Nat.le_of_ble_eq_true rfl) ?_
  refine zAloadN d_X11_starCame_0 rfl rfl (q := 1) rfl ?_
  refine zIloadN d_X11_starCame_1 rfl rfl (q := 2) rfl ?_
  refine zCallVP d_X11_starCame_2 ml_X11_335 k_X8_hasPlace ki_X8_hasPlace ks_X8_hasPlace (sp_X8_hasPlace (d := d - 1) (by omega) hh) rfl rfl hh.1 (by decide) rfl (Nat.lt_of_succ_lt hh.2.2.1) (Nat.le_of_ble_eq_true rfl) (by decide) (by omega) zns100 (q := 5) rfl ?_
  refine zIf_ne d_X11_starCame_5 (tgt := 10) (q := 8) (by decide) rfl (fun h5 => ?_) (fun h5 => ?_)
  · have hc : 0 ≤ p ∧ p < I (42 + 2 * k) 2 := bi_n0.mp h5
    refine zIloadN d_X11_starCame_10 rfl rfl (q := 11) rfl ?_
    refine zIconst d_X11_starCame_11 (v := 3) ic_3 (q := 12) rfl ?_
    refine zIloadN d_X11_starCame_12 rfl rfl (q := 13) rfl ?_
    refine zImul d_X11_starCame_13 (q := 14) rfl ?_
    refine zIadd d_X11_starCame_14 (q := 15) rfl ?_
    refine zIstore d_X11_starCame_15 (by decide) rfl (q := 17) rfl ?_
    refine zAloadN d_X11_starCame_17 rfl rfl (q := 18) rfl ?_
    refine zGetR d_X11_starCame_18 ff_X11_10 sh_0 (by decide) r_0_0 (q := 21) rfl ?_
    refine zAloadN d_X11_starCame_21 rfl rfl (q := 22) rfl ?_
    refine zIload d_X11_starCame_22 rfl (q := 24) rfl ?_
    refine zCallVP d_X11_starCame_24 ml_X11_383 k_X8_told ki_X8_told ks_X8_told (sp_X8_told (d := d - 1) (by omega) hh hm hm2) rfl rfl hh.1 (by decide) rfl (Nat.lt_of_succ_lt hh.2.2.1) (Nat.le_of_ble_eq_true rfl) (by decide) (by omega) zns100 (q := 27) rfl ?_
    refine zAloadN d_X11_starCame_27 rfl rfl (q := 28) rfl ?_
    refine zIload d_X11_starCame_28 rfl (q := 30) rfl ?_
    refine zIconst d_X11_starCame_30 (v := 1) ic_1 (q := 31) rfl ?_
    refine zIadd d_X11_starCame_31 (q := 32) rfl ?_
    refine zCallVP d_X11_starCame_32 ml_X11_383 k_X8_told ki_X8_told ks_X8_told (sp_X8_told (d := d - 1) (by omega) hh hm hm2) rfl rfl hh.1 (by decide) rfl (Nat.lt_of_succ_lt hh.2.2.1) (Nat.le_of_ble_eq_true rfl) (by decide) (by omega) zns100 (q := 35) rfl ?_
    refine zAloadN d_X11_starCame_35 rfl rfl (q := 36) rfl ?_
    refine zIload d_X11_starCame_36 rfl (q := 38) rfl ?_
    refine zIconst d_X11_starCame_38 (v := 2) ic_2 (q := 39) rfl ?_
    refine zIadd d_X11_starCame_39 (q := 40) rfl ?_
    refine zCallVP d_X11_starCame_40 ml_X11_383 k_X8_told ki_X8_told ks_X8_told (sp_X8_told (d := d - 1) (by omega) hh hm hm2) rfl rfl hh.1 (by decide) rfl (Nat.lt_of_succ_lt hh.2.2.1) (Nat.le_of_ble_eq_true rfl) (by decide) (by omega) zns100 (q := 43) rfl ?_
    refine zCallVX d_X11_starCame_43 ml_X11_91 k_X9_addStar ki_X9_addStar ks_X9_addStar (sp_X9_addStar (d := d - 1) (by omega) hK (c := (zT3 I L (42 + 2 * k) p j).1) (b := (zT3 I L (42 + 2 * k) p j).2.1) (s := (zT3 I L (42 + 2 * k) p j).2.2)) rfl rfl sh_1 (by decide) rfl (by decide) (Nat.le_of_ble_eq_true rfl) (by decide) (by omega) zns100 (q := 46) rfl (fun x w' hw' => ?_)
    obtain ⟨hx, rfl⟩ := hw'
    refine zIf_lt d_X11_starCame_46 (tgt := 53) (q := 49) (by decide) rfl (fun h46 => ?_) (fun h46 => ?_)
    · have hn : ¬ 0 ≤ (zAdd I ns (zT3 I L (42 + 2 * k) p j).1 (zT3 I L (42 + 2 * k) p j).2.1 (zT3 I L (42 + 2 * k) p j).2.2).1 := by rw [← hx]; exact Int32.not_le.mpr h46
      refine zIconst d_X11_starCame_53 (v := 0) ic_0 (q := 54) rfl ?_
      refine zIret d_X11_starCame_54 rfl rfl rfl ?_
      first
      | exact ⟨_, rfl, Or.inr ⟨rfl, And.intro hc hn, rfl⟩⟩
      | exact ⟨_, rfl, Or.inl ⟨rfl, fun q => hn q.2, by rw [zAdd_0 hn]⟩⟩
    · have hn : 0 ≤ (zAdd I ns (zT3 I L (42 + 2 * k) p j).1 (zT3 I L (42 + 2 * k) p j).2.1 (zT3 I L (42 + 2 * k) p j).2.2).1 := by rw [← hx]; exact Int32.not_lt.mp h46
      refine zIconst d_X11_starCame_49 (v := 1) ic_1 (q := 50) rfl ?_
      refine zGoto d_X11_starCame_50 (q := 54) (by decide) ?_
      refine zIret d_X11_starCame_54 rfl rfl rfl ?_
      first
      | exact ⟨_, rfl, Or.inr ⟨rfl, And.intro hc hn, rfl⟩⟩
      | exact ⟨_, rfl, Or.inl ⟨rfl, fun q => hn q.2, by rw [zAdd_0 hn]⟩⟩
  · have hc : ¬ (0 ≤ p ∧ p < I (42 + 2 * k) 2) := bi_0.mp (by simpa using h5)
    refine zIconst d_X11_starCame_8 (v := 0) ic_0 (q := 9) rfl ?_
    refine zIret d_X11_starCame_9 rfl rfl rfl ?_
    exact ⟨_, rfl, Or.inl ⟨rfl, fun q => hc q.1, rfl⟩⟩
theorem sp_X11_stars0 {i p n : Int32} (hd : 2 ≤ d) (hi : ¬ (0 ≤ i ∧ i < 6)) : zPure g l d m_X11_stars [.ref 0, .int i, .int p, .int n] I L fs (.int (-1)) := by
  refine zSp_of (lv := [(0, .ref 0), (1, .int i), (2, .int p), (3, .int n)]) k_X11_stars rfl (Nat.le_of_ble_eq_true rfl) ?_
  refine zAloadN d_X11_stars_0 rfl rfl (q := 1) rfl ?_
  refine zIloadN d_X11_stars_1 rfl rfl (q := 2) rfl ?_
  refine zCallVP d_X11_stars_2 ml_X11_95 k_X11_shelfAt ki_X11_shelfAt ks_X11_shelfAt (sp_shelf0 (d := d - 1) (by omega) hi) rfl rfl sh_0 (by decide) rfl (by decide) (Nat.le_of_ble_eq_true rfl) (by decide) (by omega) zns100 (q := 5) rfl ?_
  refine zAstore0 d_X11_stars_5 (by decide) rfl (q := 7) rfl ?_
  refine zAload0 d_X11_stars_7 rfl (q := 9) rfl ?_
  refine zIfnull0 d_X11_stars_9 (q := 23) (by decide) ?_
  refine zIconst d_X11_stars_23 (v := -1) ic_m1 (q := 24) rfl ?_
  refine zIret d_X11_stars_24 rfl rfl rfl ?_
  exact zPi rfl
theorem sp_X11_stars {k m : Nat} {p n : Int32} (hd : 6 ≤ d) (hK : zSky I ns nt nh) (hk : k < 6) (hm : I (42 + 2 * k) 2 = nI m) (hm2 : m ≤ 60) : zSp g l d 100 m_X11_stars [.ref 0, .int (nI k), .int p, .int n] (zU I L fs) (zX (fun x w =>
    (¬ (1 ≤ n ∧ n ≤ 10) ∧ x = -1 ∧ w = zU I L fs) ∨ ((1 ≤ n ∧ n ≤ 10) ∧ I (42 + 2 * k) 1 = -1 ∧ x = 0 ∧ w = zU I L fs) ∨ ((1 ≤ n ∧ n ≤ 10) ∧ ¬ I (42 + 2 * k) 1 = -1 ∧ ¬ I (42 + 2 * k) 1 = 0 ∧ x = -12 ∧ w = zU I L fs) ∨
    ((1 ≤ n ∧ n ≤ 10) ∧ I (42 + 2 * k) 1 = 0 ∧ x = nI (zStrs L (42 + 2 * k) p n.toNatClampNeg 0 ns I).1 ∧ w = zU (zStrs L (42 + 2 * k) p n.toNatClampNeg 0 ns I).2.2 L fs))) := by
  have hh := zshf hk
  have loop : ∀ c, c ≤ 10 → n = nI c → (1 ≤ n ∧ n ≤ 10) → I (42 + 2 * k) 1 = 0 → ∀ i, i ≤ c → ∀ J ns', zSky J ns' nt nh → (∀ a, 42 ≤ a → J a = I a) → zStrs L (42 + 2 * k) p (c - i) i ns' J = zStrs L (42 + 2 * k) p c 0 ns I → zA g l d m_X11_stars J L fs 49 [(5, .int (nI i)), (4, .ref (42 + 2 * k)), (0, .ref 0), (2, .int p), (3, .int n)] (zX (fun x w =>
    (¬ (1 ≤ n ∧ n ≤ 10) ∧ x = -1 ∧ w = zU I L fs) ∨ ((1 ≤ n ∧ n ≤ 10) ∧ I (42 + 2 * k) 1 = -1 ∧ x = 0 ∧ w = zU I L fs) ∨ ((1 ≤ n ∧ n ≤ 10) ∧ ¬ I (42 + 2 * k) 1 = -1 ∧ ¬ I (42 + 2 * k) 1 = 0 ∧ x = -12 ∧ w = zU I L fs) ∨
    ((1 ≤ n ∧ n ≤ 10) ∧ I (42 + 2 * k) 1 = 0 ∧ x = nI (zStrs L (42 + 2 * k) p n.toNatClampNeg 0 ns I).1 ∧ w = zU (zStrs L (42 + 2 * k) p n.toNatClampNeg 0 ns I).2.2 L fs))) := by
    intro c hc10 hc hg hb
    subst hc
    have ecl : (nI c).toNatClampNeg = c := zcl_n (by omega)
    refine zloop c (fun i hi ih J ns' hK1 hJ hx => ?_)
    have hm1 : J (42 + 2 * k) 2 = nI m := by rw [hJ _ (by omega)]; exact hm
    refine zIload d_X11_stars_49 rfl (q := 51) rfl ?_
    refine zIloadN d_X11_stars_51 rfl rfl (q := 52) rfl ?_
    refine zIcmp_ge d_X11_stars_52 (tgt := 73) (q := 55) (by decide) rfl (fun h52 => ?_) (fun h52 => ?_)
    · have e := nle h52
      rw [show c - i = 0 by omega] at hx
      have hx : (i, ns', J) = zStrs L (42 + 2 * k) p c 0 ns I := hx
      refine zIload d_X11_stars_73 rfl (q := 75) rfl ?_
      refine zIret d_X11_stars_75 rfl rfl rfl ?_
      exact ⟨_, rfl, Or.inr (Or.inr (Or.inr ⟨hg, hb, by rw [ecl, ← hx], by rw [ecl, ← hx]⟩))⟩
    · have hlt := nnle h52
      rw [show c - i = (c - (i + 1)) + 1 by omega] at hx
      refine zAloadN d_X11_stars_55 rfl rfl (q := 56) rfl ?_
      refine zAload d_X11_stars_56 rfl (q := 58) rfl ?_
      refine zIloadN d_X11_stars_58 rfl rfl (q := 59) rfl ?_
      refine zIload d_X11_stars_59 rfl (q := 61) rfl ?_
      refine zCallVX d_X11_stars_61 ml_X11_106 k_X11_starCame ki_X11_starCame ks_X11_starCame (sp_X11_starCame (d := d - 1) (by omega) hK1 hk hm1 hm2) rfl rfl sh_0 (by decide) rfl (by decide) (Nat.le_of_ble_eq_true rfl) (by decide) (by omega) zns100 (q := 64) rfl (fun x w' hw' => ?_)
      obtain ⟨J1, hw1, hr⟩ : ∃ J1, w' = zU J1 L fs ∧ ((x = 0 ∧ ¬ ((0 ≤ p ∧ p < J (42 + 2 * k) 2) ∧ 0 ≤ (zAdd J ns' (zT3 J L (42 + 2 * k) p i).1 (zT3 J L (42 + 2 * k) p i).2.1 (zT3 J L (42 + 2 * k) p i).2.2).1) ∧ J1 = J) ∨ (x = 1 ∧ ((0 ≤ p ∧ p < J (42 + 2 * k) 2) ∧ 0 ≤ (zAdd J ns' (zT3 J L (42 + 2 * k) p i).1 (zT3 J L (42 + 2 * k) p i).2.1 (zT3 J L (42 + 2 * k) p i).2.2).1) ∧ J1 = (zAdd J ns' (zT3 J L (42 + 2 * k) p i).1 (zT3 J L (42 + 2 * k) p i).2.1 (zT3 J L (42 + 2 * k) p i).2.2).2)) := by
        rcases hw' with ⟨e1, e2, e3⟩ | ⟨e1, e2, e3⟩
        · exact ⟨J, e3, Or.inl ⟨e1, e2, rfl⟩⟩
        · exact ⟨_, e3, Or.inr ⟨e1, e2, rfl⟩⟩
      subst hw1
      refine zIf_eq d_X11_stars_64 (tgt := 73) (q := 67) (by decide) rfl (fun h64 => ?_) (fun h64 => ?_)
      · have hno : ¬ ((0 ≤ p ∧ p < J (42 + 2 * k) 2) ∧ 0 ≤ (zAdd J ns' (zT3 J L (42 + 2 * k) p i).1 (zT3 J L (42 + 2 * k) p i).2.1 (zT3 J L (42 + 2 * k) p i).2.2).1) ∧ J1 = J := by
          rcases hr with ⟨_, e2, e3⟩ | ⟨e1, _, _⟩
          · exact ⟨e2, e3⟩
          · rw [e1] at h64; exact absurd h64 (by decide)
        obtain ⟨hno, rfl⟩ := hno
        have hx : (i, ns', J1) = zStrs L (42 + 2 * k) p c 0 ns I := by rw [← hx]; exact (if_neg hno).symm
        refine zIload d_X11_stars_73 rfl (q := 75) rfl ?_
        refine zIret d_X11_stars_75 rfl rfl rfl ?_
        exact ⟨_, rfl, Or.inr (Or.inr (Or.inr ⟨hg, hb, by rw [ecl, ← hx], by rw [ecl, ← hx]⟩))⟩
      · have hyes : ((0 ≤ p ∧ p < J (42 + 2 * k) 2) ∧ 0 ≤ (zAdd J ns' (zT3 J L (42 + 2 * k) p i).1 (zT3 J L (42 + 2 * k) p i).2.1 (zT3 J L (42 + 2 * k) p i).2.2).1) ∧ J1 = (zAdd J ns' (zT3 J L (42 + 2 * k) p i).1 (zT3 J L (42 + 2 * k) p i).2.1 (zT3 J L (42 + 2 * k) p i).2.2).2 := by
          rcases hr with ⟨e1, _, _⟩ | ⟨_, e2, e3⟩
          · exact absurd e1 h64
          · exact ⟨e2, e3⟩
        obtain ⟨hyes, e1⟩ := hyes
        have hx : zStrs L (42 + 2 * k) p (c - (i + 1)) (i + 1) (ns' + 1) J1 = zStrs L (42 + 2 * k) p c 0 ns I := by rw [← hx, e1]; exact (if_pos hyes).symm
        obtain ⟨a1, a2, a3, a4⟩ := zAdd_1 hK1 hyes.2
        rw [a2] at e1
        rw [← e1] at a3 a4
        refine zIinc d_X11_stars_67 rfl (zinc _) (by decide) rfl (q := 70) rfl ?_
        refine zGoto d_X11_stars_70 (q := 49) (by decide) ?_
        refine zSub [0, 1, 2, 3, 4] rfl ?_
        exact ih hlt _ _ a3 (fun a ha => (a4 a ha).trans (hJ a ha)) hx
  refine zSp_of (lv := [(0, .ref 0), (1, .int (nI k)), (2, .int p), (3, .int n)]) k_X11_stars rfl (Nat.le_of_ble_eq_true rfl) ?_
  refine zAloadN d_X11_stars_0 rfl rfl (q := 1) rfl ?_
  refine zIloadN d_X11_stars_1 rfl rfl (q := 2) rfl ?_
  refine zCallVP d_X11_stars_2 ml_X11_95 k_X11_shelfAt ki_X11_shelfAt ks_X11_shelfAt (sp_shelf (d := d - 1) (by omega) hk) rfl rfl sh_0 (by decide) rfl (by decide) (Nat.le_of_ble_eq_true rfl) (by decide) (by omega) zns100 (q := 5) rfl ?_
  refine zAstore d_X11_stars_5 (by decide) rfl (q := 7) rfl ?_
  refine zAload d_X11_stars_7 rfl (q := 9) rfl ?_
  refine zIfnull d_X11_stars_9 (q := 12) rfl ?_
  refine zIloadN d_X11_stars_12 rfl rfl (q := 13) rfl ?_
  refine zIconst d_X11_stars_13 (v := 1) ic_1 (q := 14) rfl ?_
  refine zIcmp_lt d_X11_stars_14 (tgt := 23) (q := 17) (by decide) rfl (fun h14 => ?_) (fun h14 => ?_)
  · have c1 : ¬ (1 ≤ n ∧ n ≤ 10) := fun q => Int32.not_lt.mpr q.1 h14
    refine zIconst d_X11_stars_23 (v := -1) ic_m1 (q := 24) rfl ?_
    refine zIret d_X11_stars_24 rfl rfl rfl ?_
    exact ⟨_, rfl, Or.inl ⟨c1, rfl, rfl⟩⟩
  · refine zIloadN d_X11_stars_17 rfl rfl (q := 18) rfl ?_
    refine zBipush d_X11_stars_18 (v := 10) bc_10 (q := 20) rfl ?_
    refine zIcmp_le d_X11_stars_20 (tgt := 25) (q := 23) (by decide) rfl (fun h20 => ?_) (fun h20 => ?_)
    · have c1 : 1 ≤ n ∧ n ≤ 10 := And.intro (Int32.not_lt.mp h14) h20
      refine zAload d_X11_stars_25 rfl (q := 27) rfl ?_
      refine zCallVP d_X11_stars_27 ml_X11_99 k_X8_isEmpty ki_X8_isEmpty ks_X8_isEmpty (sp_X8_isEmpty (d := d - 1) (by omega) hh) rfl rfl hh.1 (by decide) rfl (Nat.lt_of_succ_lt hh.2.2.1) (Nat.le_of_ble_eq_true rfl) (by decide) (by omega) zns100 (q := 30) rfl ?_
      refine zIf_eq d_X11_stars_30 (tgt := 35) (q := 33) (by decide) rfl (fun h30 => ?_) (fun h30 => ?_)
      · refine zAload d_X11_stars_35 rfl (q := 37) rfl ?_
        refine zCallVP d_X11_stars_37 ml_X11_103 k_X8_isBytes ki_X8_isBytes ks_X8_isBytes (sp_X8_isBytes (d := d - 1) (by omega) hh) rfl rfl hh.1 (by decide) rfl (Nat.lt_of_succ_lt hh.2.2.1) (Nat.le_of_ble_eq_true rfl) (by decide) (by omega) zns100 (q := 40) rfl ?_
        refine zIf_ne d_X11_stars_40 (tgt := 46) (q := 43) (by decide) rfl (fun h40 => ?_) (fun h40 => ?_)
        · obtain ⟨c, hc, ec⟩ := zn1 (x := n) (n := 11) (by omega) (by grind) (by show n < 11; grind)
          refine zIconst d_X11_stars_46 (v := 0) ic_0 (q := 47) rfl ?_
          refine zIstore d_X11_stars_47 (by decide) rfl (q := 49) rfl ?_
          refine zSub [0, 1, 2, 4, 5] rfl ?_
          exact loop c (by omega) ec c1 (bi_n0.mp h40) 0 (Nat.zero_le _) I ns hK (fun _ _ => rfl) rfl
        · refine zBipush d_X11_stars_43 (v := -12) bc_m12 (q := 45) rfl ?_
          refine zIret d_X11_stars_45 rfl rfl rfl ?_
          exact ⟨_, rfl, Or.inr (Or.inr (Or.inl ⟨c1, bi_0.mp h30, bi_0.mp h40, rfl, rfl⟩))⟩
      · refine zIconst d_X11_stars_33 (v := 0) ic_0 (q := 34) rfl ?_
        refine zIret d_X11_stars_34 rfl rfl rfl ?_
        exact ⟨_, rfl, Or.inr (Or.inl ⟨c1, bi_n0.mp h30, rfl, rfl⟩)⟩
    · have c1 : ¬ (1 ≤ n ∧ n ≤ 10) := fun q => h20 q.2
      refine zIconst d_X11_stars_23 (v := -1) ic_m1 (q := 24) rfl ?_
      refine zIret d_X11_stars_24 rfl rfl rfl ?_
      exact ⟨_, rfl, Or.inl ⟨c1, rfl, rfl⟩⟩
end S38

