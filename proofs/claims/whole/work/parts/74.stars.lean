/-! THE REFERENCE'S STARS OUT OF A ROW -/
section S74
variable {g : zG} {l : Launch} {d : Nat} {I V : Nat → Nat → Int32} {L K : Nat → Nat → Int64} {fs : Nat × Nat × Option Nat} {ns nt nh nb : Nat} {pg : Option (List zLine)}
theorem zAdd_iff (hn : ns ≤ 10) {c b s : Int32} : 0 ≤ (zAdd V ns c b s).1 ↔ zMay 0 c ∧ (1 ≤ b ∧ b ≤ 9) ∧ (0 ≤ s ∧ s ≤ 9) ∧ zfind (V 3) c ns 0 = -2 ∧ ns < 10 := by
  have h1 : zMay 1 b ↔ (1 ≤ b ∧ b ≤ 9) := ⟨fun q => q.2, fun q => ⟨by decide, q⟩⟩
  have h2 : zMay 2 s ↔ (0 ≤ s ∧ s ≤ 9) := ⟨fun q => q.2, fun q => ⟨by decide, q⟩⟩
  unfold zAdd
  by_cases c1 : zMay 0 c ∧ zMay 1 b ∧ zMay 2 s
  · rw [if_neg (not_not_intro c1)]
    by_cases c2 : zfind (V 3) c ns 0 = -2
    · rw [if_neg (not_not_intro c2)]
      by_cases c3 : 10 ≤ ns
      · rw [if_pos c3]
        exact ⟨fun q => absurd (show (0 : Int32) ≤ -3 from q) (by decide), fun q => by omega⟩
      · rw [if_neg c3]
        exact ⟨fun _ => ⟨c1.1, h1.mp c1.2.1, h2.mp c1.2.2, c2, by omega⟩, fun _ => zn_ge (by omega)⟩
    · rw [if_pos c2]
      exact ⟨fun q => absurd (show (0 : Int32) ≤ -1 from q) (by decide), fun q => absurd q.2.2.2.1 c2⟩
  · rw [if_pos c1]
    exact ⟨fun q => absurd (show (0 : Int32) ≤ -1 from q) (by decide), fun q => absurd ⟨q.1, h1.mpr q.2.1, h2.mpr q.2.2.1⟩ c1⟩
theorem zStrs_0 {r : Nat} {p : Int32} {f k : Nat} (h : ¬ ((0 ≤ p ∧ p < V r 2) ∧ 0 ≤ (zAdd V ns (zT3 V K r p k).1 (zT3 V K r p k).2.1 (zT3 V K r p k).2.2).1)) : zStrs K r p f k ns V = (k, ns, V) := by
  cases f with
  | zero => rfl
  | succ f => exact if_neg h
theorem zStrs_1 {r : Nat} {p : Int32} {f k : Nat} (h : (0 ≤ p ∧ p < V r 2) ∧ 0 ≤ (zAdd V ns (zT3 V K r p k).1 (zT3 V K r p k).2.1 (zT3 V K r p k).2.2).1) : zStrs K r p (f + 1) k ns V = zStrs K r p f (k + 1) (ns + 1) (zAdd V ns (zT3 V K r p k).1 (zT3 V K r p k).2.1 (zT3 V K r p k).2.2).2 := if_pos h
theorem sp_X12_stars {k m : Nat} {p n : Int32} (hd : 4 ≤ d) (hD : zMd I L V K pg) (hK : zSky V ns nt nh) (hB : zBh V nb) (h50 : nb ≤ 50) (hk : k < 6) (hm : V (42 + 2 * k) 2 = nI m) (hm2 : m ≤ 60) : zSp g l d 100 m_X12_stars [.ref 64, .int (nI k), .int p, .int n] (zU I L fs) (zX (fun x w =>
    (¬ (1 ≤ n ∧ n ≤ 10) ∧ x = -1 ∧ w = zU I L fs) ∨ ((1 ≤ n ∧ n ≤ 10) ∧ V (42 + 2 * k) 1 = -1 ∧ x = 0 ∧ w = zU I L fs) ∨ ((1 ≤ n ∧ n ≤ 10) ∧ ¬ V (42 + 2 * k) 1 = -1 ∧ ¬ V (42 + 2 * k) 1 = 0 ∧ x = -12 ∧ w = zU I L fs) ∨
    ((1 ≤ n ∧ n ≤ 10) ∧ V (42 + 2 * k) 1 = 0 ∧ x = nI (zStrs K (42 + 2 * k) p n.toNatClampNeg 0 ns V).1 ∧ ∃ J, w = zU J L fs ∧ zFrm I J ∧ zMd J L (zStrs K (42 + 2 * k) p n.toNatClampNeg 0 ns V).2.2 K pg))) := by
  have loop : ∀ c, c ≤ 10 → n = nI c → (1 ≤ n ∧ n ≤ 10) → V (42 + 2 * k) 1 = 0 → ∀ q, q < 2 ^ 31 → p = nI q → ∀ i, i ≤ c → ∀ J V' ns', zSky V' ns' nt nh → (∀ a, 42 ≤ a → V' a = V a) → zMd J L V' K pg → zFrm I J → zStrs K (42 + 2 * k) p (c - i) i ns' V' = zStrs K (42 + 2 * k) p c 0 ns V →
    zA g l d m_X12_stars J L fs 58 [(4, .int (nI i)), (0, .ref 64), (1, .int (nI k)), (2, .int p), (3, .int n)] (zX (fun x w =>
    (¬ (1 ≤ n ∧ n ≤ 10) ∧ x = -1 ∧ w = zU I L fs) ∨ ((1 ≤ n ∧ n ≤ 10) ∧ V (42 + 2 * k) 1 = -1 ∧ x = 0 ∧ w = zU I L fs) ∨ ((1 ≤ n ∧ n ≤ 10) ∧ ¬ V (42 + 2 * k) 1 = -1 ∧ ¬ V (42 + 2 * k) 1 = 0 ∧ x = -12 ∧ w = zU I L fs) ∨
    ((1 ≤ n ∧ n ≤ 10) ∧ V (42 + 2 * k) 1 = 0 ∧ x = nI (zStrs K (42 + 2 * k) p n.toNatClampNeg 0 ns V).1 ∧ ∃ J, w = zU J L fs ∧ zFrm I J ∧ zMd J L (zStrs K (42 + 2 * k) p n.toNatClampNeg 0 ns V).2.2 K pg))) := by
    intro c hc10 hc hg hb q hq hp
    subst hc
    subst hp
    have ecl : (nI c).toNatClampNeg = c := zcl_n (by omega)
    rw [ecl]
    refine zloop c (fun i hi ih J V' ns' hK1 hV hD1 hfr hx => ?_)
    have hm1 : V' (42 + 2 * k) 2 = nI m := by rw [hV _ (by omega)]; exact hm
    obtain ⟨e, he⟩ : ∃ e, e = q + 3 * i := ⟨_, rfl⟩
    have hH := hD1.2.2.2.2.2.1 k hk
    have ns10 := hK1.2.1
    have stop : (i, ns', V') = zStrs K (42 + 2 * k) (nI q) c 0 ns V → zX (fun x w =>
    (¬ (1 ≤ nI c ∧ nI c ≤ 10) ∧ x = -1 ∧ w = zU I L fs) ∨ ((1 ≤ nI c ∧ nI c ≤ 10) ∧ V (42 + 2 * k) 1 = -1 ∧ x = 0 ∧ w = zU I L fs) ∨ ((1 ≤ nI c ∧ nI c ≤ 10) ∧ ¬ V (42 + 2 * k) 1 = -1 ∧ ¬ V (42 + 2 * k) 1 = 0 ∧ x = -12 ∧ w = zU I L fs) ∨
    ((1 ≤ nI c ∧ nI c ≤ 10) ∧ V (42 + 2 * k) 1 = 0 ∧ x = nI (zStrs K (42 + 2 * k) (nI q) c 0 ns V).1 ∧ ∃ J, w = zU J L fs ∧ zFrm I J ∧ zMd J L (zStrs K (42 + 2 * k) (nI q) c 0 ns V).2.2 K pg)) (some (.int (nI i))) (zU J L fs) := fun h => ⟨_, rfl, Or.inr (Or.inr (Or.inr ⟨hg, hb, by rw [← h], J, rfl, hfr, by rw [← h]; exact hD1⟩))⟩
    have e3 : (nI q : Int32) + 3 * nI i = nI e := by rw [show (3 : Int32) = nI 3 from rfl, nI_mul2, nI_add, he]
    have t3 : zT3 V' K (42 + 2 * k) (nI q) i = (zTold V' K (42 + 2 * k) (nI e), zTold V' K (42 + 2 * k) (nI (e + 1)), zTold V' K (42 + 2 * k) (nI (e + 2))) := by
      unfold zT3
      rw [e3, nI_1, show (2 : Int32) = nI 2 from rfl, nI_add]
    -- where it comes to an end
    have end1 : i < c → ¬ 0 ≤ (zAdd V' ns' (zT3 V' K (42 + 2 * k) (nI q) i).1 (zT3 V' K (42 + 2 * k) (nI q) i).2.1 (zT3 V' K (42 + 2 * k) (nI q) i).2.2).1 → (i, ns', V') = zStrs K (42 + 2 * k) (nI q) c 0 ns V := fun _ h => by
      rw [← hx]; exact (zStrs_0 (fun z => h z.2)).symm
    have out2 : m ≤ e + 2 → e + 2 < 2 ^ 31 → ¬ 0 ≤ (zAdd V' ns' (zT3 V' K (42 + 2 * k) (nI q) i).1 (zT3 V' K (42 + 2 * k) (nI q) i).2.1 (zT3 V' K (42 + 2 * k) (nI q) i).2.2).1 := fun h h2 z => by
      rw [zAdd_iff ns10, t3, zTold_out hm1 hm2 h h2] at z
      exact absurd (show (0 : Int32) ≤ -1 from z.2.2.1.1) (by decide)
    have end2 : i < c → m ≤ e + 2 → (i, ns', V') = zStrs K (42 + 2 * k) (nI q) c 0 ns V := fun hlt h => by
      by_cases h2 : q < m
      · exact end1 hlt (out2 h (by omega))
      · rw [← hx]
        refine (zStrs_0 (fun z => ?_)).symm
        rw [hm1] at z
        have := (nI_ltI (a := q) (b := m) hq (by omega)).mp z.1.2
        omega
    have inn : e + 2 < m → zT3 V' K (42 + 2 * k) (nI q) i = ((K (43 + 2 * k) e).toInt32, (K (43 + 2 * k) (e + 1)).toInt32, (K (43 + 2 * k) (e + 2)).toInt32) := fun h => by
      rw [t3, zTold_at hm1 hm2 (by omega), zTold_at hm1 hm2 (by omega), zTold_at hm1 hm2 h]
    obtain ⟨b, eb⟩ : ∃ b, b = 60 * k + e := ⟨_, rfl⟩
    have l0 : e + 2 < m → L 98 b = K (43 + 2 * k) e := fun h => by rw [eb]; exact hH.2.2 e (by omega)
    have l1 : e + 2 < m → L 98 (b + 1) = K (43 + 2 * k) (e + 1) := fun h => by rw [eb]; exact hH.2.2 (e + 1) (by omega)
    have l2 : e + 2 < m → L 98 (b + 2) = K (43 + 2 * k) (e + 2) := fun h => by rw [eb]; exact hH.2.2 (e + 2) (by omega)
    have n2 : ∀ x, (nI x : Int32) + 2 = nI (x + 2) := fun x => nI_add x 2
    refine zIload d_X12_stars_58 rfl (q := 60) rfl ?_
    refine zIloadN d_X12_stars_60 rfl rfl (q := 61) rfl ?_
    refine zIcmp_ge d_X12_stars_61 (tgt := 229) (q := 64) (by decide) rfl (fun h61 => ?_) (fun h61 => ?_)
    · have ei := nle h61
      rw [show c - i = 0 by omega] at hx
      have hx : (i, ns', V') = zStrs K (42 + 2 * k) (nI q) c 0 ns V := hx
      have eic : i = c := by omega
      rw [← eic] at hx stop ⊢
      refine zIloadN d_X12_stars_229 rfl rfl (q := 230) rfl ?_
      refine zIret d_X12_stars_230 rfl rfl rfl ?_
      exact stop hx
    · have hlt := nnle h61
      refine zIloadN d_X12_stars_64 rfl rfl (q := 65) rfl ?_
      refine zI2l d_X12_stars_65 (q := 66) rfl ?_
      rw [nI_l hq]
      refine zIconst d_X12_stars_66 (v := 3) ic_3 (q := 67) rfl ?_
      refine zIload d_X12_stars_67 rfl (q := 69) rfl ?_
      refine zImul d_X12_stars_69 (q := 70) rfl ?_
      rw [show (3 : Int32) = nI 3 from rfl, nI_mul2]
      refine zI2l d_X12_stars_70 (q := 71) rfl ?_
      rw [nI_l (by omega)]
      refine zLadd d_X12_stars_71 (q := 72) rfl ?_
      rw [lN_add, ← he]
      refine zLstore d_X12_stars_72 (by decide) rfl (q := 74) rfl ?_
      refine zLload d_X12_stars_74 rfl (q := 76) rfl ?_
      refine zLconst d_X12_stars_76 (v := 0) rfl (q := 77) rfl ?_
      refine zLcmp d_X12_stars_77 (q := 78) rfl ?_
      refine zIf_lt d_X12_stars_78 (tgt := 107) (q := 81) (by decide) rfl (fun h => absurd h (fun z => by have := (pk_lLT (a := e) (b := 0) (by omega) (by decide)).mp ((lg_cmp_lt _ _).mp z); omega)) (fun h78 => ?_)
      refine zLload d_X12_stars_81 rfl (q := 83) rfl ?_
      refine zLdc2 d_X12_stars_83 co_X12_155 (q := 86) rfl ?_
      refine zLadd d_X12_stars_86 (q := 87) rfl ?_
      rw [show (2 : Int64) = lN 2 from rfl, lN_add]
      refine zAloadN d_X12_stars_87 rfl rfl (q := 88) rfl ?_
      refine zGetR d_X12_stars_88 ff_X12_110 sh_64 (by decide) r_64_54 (q := 91) rfl ?_
      refine zIloadN d_X12_stars_91 rfl rfl (q := 92) rfl ?_
      refine zIald d_X12_stars_92 sh_97 (by decide) rfl hk (q := 93) rfl ?_
      rw [hH.1, hm1]
      refine zI2l d_X12_stars_93 (q := 94) rfl ?_
      rw [nI_l (by omega)]
      refine zLcmp d_X12_stars_94 (q := 95) rfl ?_
      refine zIf_ge d_X12_stars_95 (tgt := 107) (q := 98) (by decide) rfl (fun h95 => ?_) (fun h95 => ?_)
      · have hge := (pk_lLE (a := m) (b := e + 2) (by omega) (by omega)).mp ((lg_cmp_ge _ _).mp h95)
        refine zIload d_X12_stars_107 rfl (q := 109) rfl ?_
        refine zIret d_X12_stars_109 rfl rfl rfl ?_
        first
        | exact stop (end1 hlt hno)
        | exact stop (end2 hlt hge)
      · have hin := Nat.lt_of_not_le (fun z => h95 ((lg_cmp_ge _ _).mpr ((pk_lLE (a := m) (b := e + 2) (by omega) (by omega)).mpr z)))
        have t3i := inn hin
        refine zAloadN d_X12_stars_98 rfl rfl (q := 99) rfl ?_
        refine zGetI d_X12_stars_99 ff_X12_124 sh_64 (by decide) (q := 102) rfl ?_
        refine zBipush d_X12_stars_102 (v := 10) bc_10 (q := 104) rfl ?_
        rw [hD1.1.1.1, hK1.1.1]
        refine zIcmp_ne d_X12_stars_104 (tgt := 110) (q := 107) (by decide) rfl (fun h104 => ?_) (fun h104 => ?_)
        · have hn10 : ns' < 10 := by have : ¬ ns' = 10 := (fun z => h104 (by rw [z]; rfl)); omega
          refine zBipush d_X12_stars_110 (v := 60) bc_60 (q := 112) rfl ?_
          refine zIloadN d_X12_stars_112 rfl rfl (q := 113) rfl ?_
          refine zImul d_X12_stars_113 (q := 114) rfl ?_
          refine zLload d_X12_stars_114 rfl (q := 116) rfl ?_
          refine zL2i d_X12_stars_116 (q := 117) rfl ?_
          rw [lN_i]
          refine zIadd d_X12_stars_117 (q := 118) rfl ?_
          rw [z60, ← eb]
          refine zIstore d_X12_stars_118 (by decide) rfl (q := 120) rfl ?_
          refine zAloadN d_X12_stars_120 rfl rfl (q := 121) rfl ?_
          refine zGetR d_X12_stars_121 ff_X12_113 sh_64 (by decide) r_64_55 (q := 124) rfl ?_
          refine zIload d_X12_stars_124 rfl (q := 126) rfl ?_
          refine zLald d_X12_stars_126 sh_98 (by decide) rfl (by omega) (q := 127) rfl ?_
          rw [l0 hin]
          refine zL2i d_X12_stars_127 (q := 128) rfl ?_
          refine zCallSP d_X12_stars_128 ml_X12_145 k_X12_isCell kt_X12_isCell (sp_X12_isCell (d := d - 1) (by omega) ) rfl rfl (Nat.le_of_ble_eq_true rfl) (by decide) (by omega) zns100 (q := 131) rfl ?_
          refine zIf_eq d_X12_stars_131 (tgt := 187) (q := 134) (by decide) rfl (fun h131 => ?_) (fun h131 => ?_)
          · have hno : ¬ 0 ≤ (zAdd V' ns' (zT3 V' K (42 + 2 * k) (nI q) i).1 (zT3 V' K (42 + 2 * k) (nI q) i).2.1 (zT3 V' K (42 + 2 * k) (nI q) i).2.2).1 := fun z => by rw [t3i] at z; exact bi_0.mp h131 ((zAdd_iff ns10).mp z).1
            refine zIload d_X12_stars_187 rfl (q := 189) rfl ?_
            refine zIret d_X12_stars_189 rfl rfl rfl ?_
            exact stop (end1 hlt hno)
          · have y1 := bi_n0.mp h131
            refine zAloadN d_X12_stars_134 rfl rfl (q := 135) rfl ?_
            refine zAloadN d_X12_stars_135 rfl rfl (q := 136) rfl ?_
            refine zGetR d_X12_stars_136 ff_X12_113 sh_64 (by decide) r_64_55 (q := 139) rfl ?_
            refine zIload d_X12_stars_139 rfl (q := 141) rfl ?_
            refine zLald d_X12_stars_141 sh_98 (by decide) rfl (by omega) (q := 142) rfl ?_
            rw [l0 hin]
            refine zL2i d_X12_stars_142 (q := 143) rfl ?_
            refine zCallVP d_X12_stars_143 ml_X12_141 k_X12_starIn ki_X12_starIn ks_X12_starIn (sp_X12_starIn (d := d - 1) (by omega) hD1.1 hK1) rfl rfl sh_64 (by decide) rfl (by decide) (Nat.le_of_ble_eq_true rfl) (by decide) (by omega) zns100 (q := 146) rfl ?_
            refine zIf_ge d_X12_stars_146 (tgt := 187) (q := 149) (by decide) rfl (fun h146 => ?_) (fun h146 => ?_)
            · have hno : ¬ 0 ≤ (zAdd V' ns' (zT3 V' K (42 + 2 * k) (nI q) i).1 (zT3 V' K (42 + 2 * k) (nI q) i).2.1 (zT3 V' K (42 + 2 * k) (nI q) i).2.2).1 := fun z => by rw [t3i] at z; have := ((zAdd_iff ns10).mp z).2.2.2.1; exact absurd ((zfind_neg (by omega)).mpr this) (Int32.not_lt.mpr h146)
              refine zIload d_X12_stars_187 rfl (q := 189) rfl ?_
              refine zIret d_X12_stars_189 rfl rfl rfl ?_
              exact stop (end1 hlt hno)
            · have y2 := (zfind_neg (by omega)).mp (Int32.not_le.mp h146)
              refine zAloadN d_X12_stars_149 rfl rfl (q := 150) rfl ?_
              refine zGetR d_X12_stars_150 ff_X12_113 sh_64 (by decide) r_64_55 (q := 153) rfl ?_
              refine zIload d_X12_stars_153 rfl (q := 155) rfl ?_
              refine zIconst d_X12_stars_155 (v := 1) ic_1 (q := 156) rfl ?_
              refine zIadd d_X12_stars_156 (q := 157) rfl ?_
              rw [nI_1]
              refine zLald d_X12_stars_157 sh_98 (by decide) rfl (by omega) (q := 158) rfl ?_
              rw [l1 hin]
              refine zL2i d_X12_stars_158 (q := 159) rfl ?_
              refine zIconst d_X12_stars_159 (v := 1) ic_1 (q := 160) rfl ?_
              refine zBipush d_X12_stars_160 (v := 9) bc_9 (q := 162) rfl ?_
              refine zCallSP d_X12_stars_162 ml_X12_127 k_X12_in kt_X12_in (sp_X12_in (d := d - 1) (by omega) ) rfl rfl (Nat.le_of_ble_eq_true rfl) (by decide) (by omega) zns100 (q := 165) rfl ?_
              refine zIf_eq d_X12_stars_165 (tgt := 187) (q := 168) (by decide) rfl (fun h165 => ?_) (fun h165 => ?_)
              · have hno : ¬ 0 ≤ (zAdd V' ns' (zT3 V' K (42 + 2 * k) (nI q) i).1 (zT3 V' K (42 + 2 * k) (nI q) i).2.1 (zT3 V' K (42 + 2 * k) (nI q) i).2.2).1 := fun z => by rw [t3i] at z; exact bi_0.mp h165 ((zAdd_iff ns10).mp z).2.1
                refine zIload d_X12_stars_187 rfl (q := 189) rfl ?_
                refine zIret d_X12_stars_189 rfl rfl rfl ?_
                exact stop (end1 hlt hno)
              · have y3 := bi_n0.mp h165
                refine zAloadN d_X12_stars_168 rfl rfl (q := 169) rfl ?_
                refine zGetR d_X12_stars_169 ff_X12_113 sh_64 (by decide) r_64_55 (q := 172) rfl ?_
                refine zIload d_X12_stars_172 rfl (q := 174) rfl ?_
                refine zIconst d_X12_stars_174 (v := 2) ic_2 (q := 175) rfl ?_
                refine zIadd d_X12_stars_175 (q := 176) rfl ?_
                rw [n2]
                refine zLald d_X12_stars_176 sh_98 (by decide) rfl (by omega) (q := 177) rfl ?_
                rw [l2 hin]
                refine zL2i d_X12_stars_177 (q := 178) rfl ?_
                refine zIconst d_X12_stars_178 (v := 0) ic_0 (q := 179) rfl ?_
                refine zBipush d_X12_stars_179 (v := 9) bc_9 (q := 181) rfl ?_
                refine zCallSP d_X12_stars_181 ml_X12_127 k_X12_in kt_X12_in (sp_X12_in (d := d - 1) (by omega) ) rfl rfl (Nat.le_of_ble_eq_true rfl) (by decide) (by omega) zns100 (q := 184) rfl ?_
                refine zIf_ne d_X12_stars_184 (tgt := 190) (q := 187) (by decide) rfl (fun h184 => ?_) (fun h184 => ?_)
                · have y4 := bi_n0.mp h184
                  refine zAloadN d_X12_stars_190 rfl rfl (q := 191) rfl ?_
                  refine zAloadN d_X12_stars_191 rfl rfl (q := 192) rfl ?_
                  refine zGetR d_X12_stars_192 ff_X12_113 sh_64 (by decide) r_64_55 (q := 195) rfl ?_
                  refine zIload d_X12_stars_195 rfl (q := 197) rfl ?_
                  refine zLald d_X12_stars_197 sh_98 (by decide) rfl (by omega) (q := 198) rfl ?_
                  rw [l0 hin]
                  refine zL2i d_X12_stars_198 (q := 199) rfl ?_
                  refine zAloadN d_X12_stars_199 rfl rfl (q := 200) rfl ?_
                  refine zGetR d_X12_stars_200 ff_X12_113 sh_64 (by decide) r_64_55 (q := 203) rfl ?_
                  refine zIload d_X12_stars_203 rfl (q := 205) rfl ?_
                  refine zIconst d_X12_stars_205 (v := 1) ic_1 (q := 206) rfl ?_
                  refine zIadd d_X12_stars_206 (q := 207) rfl ?_
                  rw [nI_1]
                  refine zLald d_X12_stars_207 sh_98 (by decide) rfl (by omega) (q := 208) rfl ?_
                  rw [l1 hin]
                  refine zL2i d_X12_stars_208 (q := 209) rfl ?_
                  refine zAloadN d_X12_stars_209 rfl rfl (q := 210) rfl ?_
                  refine zGetR d_X12_stars_210 ff_X12_113 sh_64 (by decide) r_64_55 (q := 213) rfl ?_
                  refine zIload d_X12_stars_213 rfl (q := 215) rfl ?_
                  refine zIconst d_X12_stars_215 (v := 2) ic_2 (q := 216) rfl ?_
                  refine zIadd d_X12_stars_216 (q := 217) rfl ?_
                  rw [n2]
                  refine zLald d_X12_stars_217 sh_98 (by decide) rfl (by omega) (q := 218) rfl ?_
                  rw [l2 hin]
                  refine zL2i d_X12_stars_218 (q := 219) rfl ?_
                  refine zCallVX d_X12_stars_219 ml_X12_148 k_X12_addStar ki_X12_addStar ks_X12_addStar (sp_X12_addStar (d := d - 1) (by omega) hD1.1 hK1 hn10) rfl rfl sh_64 (by decide) rfl (by decide) (Nat.le_of_ble_eq_true rfl) (by decide) (by omega) zns100 (q := 222) rfl (fun x w' hw' => ?_)
                  obtain ⟨rfl, rfl⟩ := hw'
                  have ok := (zAdd_iff (V := V') (b := (K (43 + 2 * k) (e + 1)).toInt32) (s := (K (43 + 2 * k) (e + 2)).toInt32) ns10).mpr ⟨y1, y3, y4, y2, hn10⟩
                  obtain ⟨-, a2, a3, a4⟩ := zAdd_1 hK1 ok
                  have pin : 0 ≤ nI q ∧ nI q < V' (42 + 2 * k) 2 := by rw [hm1]; exact ⟨zn_ge hq, (nI_ltI hq (by omega)).mpr (by omega)⟩
                  rw [show c - i = (c - (i + 1)) + 1 by omega, zStrs_1 (by rw [t3i]; exact ⟨pin, ok⟩), t3i, a2] at hx
                  refine zPop d_X12_stars_222 rfl (q := 223) rfl ?_
                  refine zIinc d_X12_stars_223 rfl (zinc _) (by decide) rfl (q := 226) rfl ?_
                  refine zGoto d_X12_stars_226 (q := 58) (by decide) ?_
                  refine zSub [0, 3, 4, 5, 6] rfl ?_
                  exact ih hlt _ _ _ a3 (fun a ha => (a4 a ha).trans (hV a ha)) ⟨zMs_star hD1.1, hD1.2.1, hD1.2.2.1, hD1.2.2.2.1, hD1.2.2.2.2.1, zMh_ex ⟨rfl, rfl⟩ (fun a ha => zStarI_ne (by omega)) hD1.2.2.2.2.2.1, zMl_ex rfl (fun a ha => by rw [zup_ne (by omega), zup_ne (by omega), zup_ne (by omega), zup_ne (by omega), zup_ne (by omega)]) hD1.2.2.2.2.2.2⟩ (zFrm_up (zFrm_up (zFrm_up (zFrm_up (zFrm_up hfr (by decide)) (by decide)) (by decide)) (by decide)) (by decide)) hx
                · have hno : ¬ 0 ≤ (zAdd V' ns' (zT3 V' K (42 + 2 * k) (nI q) i).1 (zT3 V' K (42 + 2 * k) (nI q) i).2.1 (zT3 V' K (42 + 2 * k) (nI q) i).2.2).1 := fun z => by rw [t3i] at z; exact bi_0.mp h184 ((zAdd_iff ns10).mp z).2.2.1
                  refine zIload d_X12_stars_187 rfl (q := 189) rfl ?_
                  refine zIret d_X12_stars_189 rfl rfl rfl ?_
                  exact stop (end1 hlt hno)
        · have hno : ¬ 0 ≤ (zAdd V' ns' (zT3 V' K (42 + 2 * k) (nI q) i).1 (zT3 V' K (42 + 2 * k) (nI q) i).2.1 (zT3 V' K (42 + 2 * k) (nI q) i).2.2).1 := fun z => by have h10 := ((zAdd_iff ns10).mp z).2.2.2.2; have := (nI_eq (a := ns') (b := 10) (by omega) (by decide)).mp h104; omega
          refine zIload d_X12_stars_107 rfl (q := 109) rfl ?_
          refine zIret d_X12_stars_109 rfl rfl rfl ?_
          first
          | exact stop (end1 hlt hno)
          | exact stop (end2 hlt hge)
  have neg : ∀ c, c ≤ 10 → n = nI c → (1 ≤ n ∧ n ≤ 10) → V (42 + 2 * k) 1 = 0 → p < 0 →
    zA g l d m_X12_stars I L fs 58 [(4, .int (nI 0)), (0, .ref 64), (1, .int (nI k)), (2, .int p), (3, .int n)] (zX (fun x w =>
    (¬ (1 ≤ n ∧ n ≤ 10) ∧ x = -1 ∧ w = zU I L fs) ∨ ((1 ≤ n ∧ n ≤ 10) ∧ V (42 + 2 * k) 1 = -1 ∧ x = 0 ∧ w = zU I L fs) ∨ ((1 ≤ n ∧ n ≤ 10) ∧ ¬ V (42 + 2 * k) 1 = -1 ∧ ¬ V (42 + 2 * k) 1 = 0 ∧ x = -12 ∧ w = zU I L fs) ∨
    ((1 ≤ n ∧ n ≤ 10) ∧ V (42 + 2 * k) 1 = 0 ∧ x = nI (zStrs K (42 + 2 * k) p n.toNatClampNeg 0 ns V).1 ∧ ∃ J, w = zU J L fs ∧ zFrm I J ∧ zMd J L (zStrs K (42 + 2 * k) p n.toNatClampNeg 0 ns V).2.2 K pg))) := by
    intro c hc10 hc hg hb hp
    have h0 : ¬ (n ≤ nI 0) := fun z => absurd (Int32.le_trans hg.1 z) (by decide)
    have hs : zStrs K (42 + 2 * k) p n.toNatClampNeg 0 ns V = (0, ns, V) := zStrs_0 (fun z => Int32.not_le.mpr hp z.1.1)
    refine zIload d_X12_stars_58 rfl (q := 60) rfl ?_
    refine zIloadN d_X12_stars_60 rfl rfl (q := 61) rfl ?_
    refine zIcmp_ge d_X12_stars_61 (tgt := 229) (q := 64) (by decide) rfl (fun h => absurd h h0) (fun h61 => ?_)
    refine zIloadN d_X12_stars_64 rfl rfl (q := 65) rfl ?_
    refine zI2l d_X12_stars_65 (q := 66) rfl ?_
    refine zIconst d_X12_stars_66 (v := 3) ic_3 (q := 67) rfl ?_
    refine zIload d_X12_stars_67 rfl (q := 69) rfl ?_
    refine zImul d_X12_stars_69 (q := 70) rfl ?_
    rw [show (3 : Int32) = nI 3 from rfl, nI_mul2]
    refine zI2l d_X12_stars_70 (q := 71) rfl ?_
    rw [nI_l (by omega)]
    refine zLadd d_X12_stars_71 (q := 72) rfl ?_
    rw [show lN (3 * 0) = 0 from rfl, Int64.add_zero]
    refine zLstore d_X12_stars_72 (by decide) rfl (q := 74) rfl ?_
    refine zLload d_X12_stars_74 rfl (q := 76) rfl ?_
    refine zLconst d_X12_stars_76 (v := 0) rfl (q := 77) rfl ?_
    refine zLcmp d_X12_stars_77 (q := 78) rfl ?_
    refine zIf_lt d_X12_stars_78 (tgt := 107) (q := 81) (by decide) rfl (fun h78 => ?_) (fun h => absurd ((lg_cmp_lt _ _).mpr (by rw [Int64.lt_iff_toInt_lt, Int32.toInt_toInt64]; exact Int32.lt_iff_toInt_lt.mp hp)) h)
    refine zIload d_X12_stars_107 rfl (q := 109) rfl ?_
    refine zIret d_X12_stars_109 rfl rfl rfl ?_
    exact ⟨_, rfl, Or.inr (Or.inr (Or.inr ⟨hg, hb, by rw [hs], I, rfl, zFrm_refl, by rw [hs]; exact hD⟩))⟩
  have e96 := (hD.2.2.2.2.2.1 k hk).2.1
  have hz : (zHc (V (42 + 2 * k) 1) (V (42 + 2 * k) 3) = -1 ↔ V (42 + 2 * k) 1 = -1) ∧ (zHc (V (42 + 2 * k) 1) (V (42 + 2 * k) 3) = -2 ↔ V (42 + 2 * k) 1 = 0) := by
    rcases zHc_cases h50 (hB k hk) with ⟨e, e2⟩ | ⟨s, hs, e, e2⟩ | ⟨e, b, hb, e3, e2⟩
    · rw [e2, e]; decide
    · have z := zHc_row s hs
      rw [e2, e]
      exact ⟨⟨fun q => absurd q z.2.2.2.1, fun q => absurd q z.1⟩, z.2.2.2.2.2.1⟩
    · have b0 := zn_ge (k := b) (by omega)
      rw [e2, e]
      exact ⟨⟨fun q => by rw [q] at b0; exact absurd b0 (by decide), fun q => absurd q (by decide)⟩, ⟨fun q => by rw [q] at b0; exact absurd b0 (by decide), fun q => absurd q (by decide)⟩⟩
  refine zSp_of (lv := [(0, .ref 64), (1, .int (nI k)), (2, .int p), (3, .int n)]) k_X12_stars rfl (Nat.le_of_ble_eq_true rfl) ?_
  refine zIloadN d_X12_stars_0 rfl rfl (q := 1) rfl ?_
  refine zCallSP d_X12_stars_1 ml_X12_152 k_X12_isShelf kt_X12_isShelf (sp_X12_isShelf (d := d - 1) (by omega) ) rfl rfl (Nat.le_of_ble_eq_true rfl) (by decide) (by omega) zns100 (q := 4) rfl ?_
  refine zIf_eq d_X12_stars_4 (tgt := 17) (q := 7) (by decide) rfl (fun h => absurd h (zshelf_in hk)) (fun h4 => ?_)
  refine zIloadN d_X12_stars_7 rfl rfl (q := 8) rfl ?_
  refine zIconst d_X12_stars_8 (v := 1) ic_1 (q := 9) rfl ?_
  refine zBipush d_X12_stars_9 (v := 10) bc_10 (q := 11) rfl ?_
  refine zCallSP d_X12_stars_11 ml_X12_127 k_X12_in kt_X12_in (sp_X12_in (d := d - 1) (by omega) ) rfl rfl (Nat.le_of_ble_eq_true rfl) (by decide) (by omega) zns100 (q := 14) rfl ?_
  refine zIf_ne d_X12_stars_14 (tgt := 19) (q := 17) (by decide) rfl (fun h14 => ?_) (fun h14 => ?_)
  · have c1 := bi_n0.mp h14
    refine zAloadN d_X12_stars_19 rfl rfl (q := 20) rfl ?_
    refine zGetR d_X12_stars_20 ff_X12_107 sh_64 (by decide) r_64_53 (q := 23) rfl ?_
    refine zIloadN d_X12_stars_23 rfl rfl (q := 24) rfl ?_
    refine zIald d_X12_stars_24 sh_96 (by decide) rfl hk (q := 25) rfl ?_
    rw [e96]
    refine zIconst d_X12_stars_25 (v := -1) ic_m1 (q := 26) rfl ?_
    refine zIcmp_eq d_X12_stars_26 (tgt := 43) (q := 29) (by decide) rfl (fun h26 => ?_) (fun h26 => ?_)
    · have d1 := hz.1.mp h26
      refine zAloadN d_X12_stars_43 rfl rfl (q := 44) rfl ?_
      refine zGetR d_X12_stars_44 ff_X12_107 sh_64 (by decide) r_64_53 (q := 47) rfl ?_
      refine zIloadN d_X12_stars_47 rfl rfl (q := 48) rfl ?_
      refine zIald d_X12_stars_48 sh_96 (by decide) rfl hk (q := 49) rfl ?_
      rw [e96]
      refine zIconst d_X12_stars_49 (v := -1) ic_m1 (q := 50) rfl ?_
      refine zIcmp_ne d_X12_stars_50 (tgt := 55) (q := 53) (by decide) rfl (fun h50 => ?_) (fun h50 => ?_)
      · have d0 : V (42 + 2 * k) 1 = 0 := by first | assumption | contradiction
        refine zIconst d_X12_stars_55 (v := 0) ic_0 (q := 56) rfl ?_
        refine zIstore d_X12_stars_56 (by decide) rfl (q := 58) rfl ?_
        refine zSub [0, 1, 2, 3, 4] rfl ?_
        obtain ⟨c, hc, ec⟩ := zn1 (x := n) (n := 11) (by omega) (by grind) (by show n < 11; grind)
        rcases Int32.lt_or_le p 0 with hp | hp
        · exact neg c (by omega) ec c1 d0 hp
        · obtain ⟨q, hq, ep⟩ := nI_of (x := p) (by intro z; exact absurd hp (by simpa using z))
          exact loop c (by omega) ec c1 d0 q hq ep 0 (Nat.zero_le _) I V ns hK (fun _ _ => rfl) hD zFrm_refl rfl
      · have d3 := hz.1.mp h50
        refine zIconst d_X12_stars_53 (v := 0) ic_0 (q := 54) rfl ?_
        refine zIret d_X12_stars_54 rfl rfl rfl ?_
        exact ⟨_, rfl, Or.inr (Or.inl ⟨c1, d3, rfl, rfl⟩)⟩
    · have d1 : ¬ V (42 + 2 * k) 1 = -1 := fun q => h26 (hz.1.mpr q)
      refine zAloadN d_X12_stars_29 rfl rfl (q := 30) rfl ?_
      refine zGetR d_X12_stars_30 ff_X12_107 sh_64 (by decide) r_64_53 (q := 33) rfl ?_
      refine zIloadN d_X12_stars_33 rfl rfl (q := 34) rfl ?_
      refine zIald d_X12_stars_34 sh_96 (by decide) rfl hk (q := 35) rfl ?_
      rw [e96]
      refine zBipush d_X12_stars_35 (v := -2) bc_m2 (q := 37) rfl ?_
      refine zIcmp_eq d_X12_stars_37 (tgt := 43) (q := 40) (by decide) rfl (fun h37 => ?_) (fun h37 => ?_)
      · have d2 := hz.2.mp h37
        refine zAloadN d_X12_stars_43 rfl rfl (q := 44) rfl ?_
        refine zGetR d_X12_stars_44 ff_X12_107 sh_64 (by decide) r_64_53 (q := 47) rfl ?_
        refine zIloadN d_X12_stars_47 rfl rfl (q := 48) rfl ?_
        refine zIald d_X12_stars_48 sh_96 (by decide) rfl hk (q := 49) rfl ?_
        rw [e96]
        refine zIconst d_X12_stars_49 (v := -1) ic_m1 (q := 50) rfl ?_
        refine zIcmp_ne d_X12_stars_50 (tgt := 55) (q := 53) (by decide) rfl (fun h50 => ?_) (fun h50 => ?_)
        · have d0 : V (42 + 2 * k) 1 = 0 := by first | assumption | contradiction
          refine zIconst d_X12_stars_55 (v := 0) ic_0 (q := 56) rfl ?_
          refine zIstore d_X12_stars_56 (by decide) rfl (q := 58) rfl ?_
          refine zSub [0, 1, 2, 3, 4] rfl ?_
          obtain ⟨c, hc, ec⟩ := zn1 (x := n) (n := 11) (by omega) (by grind) (by show n < 11; grind)
          rcases Int32.lt_or_le p 0 with hp | hp
          · exact neg c (by omega) ec c1 d0 hp
          · obtain ⟨q, hq, ep⟩ := nI_of (x := p) (by intro z; exact absurd hp (by simpa using z))
            exact loop c (by omega) ec c1 d0 q hq ep 0 (Nat.zero_le _) I V ns hK (fun _ _ => rfl) hD zFrm_refl rfl
        · have d3 := hz.1.mp h50
          refine zIconst d_X12_stars_53 (v := 0) ic_0 (q := 54) rfl ?_
          refine zIret d_X12_stars_54 rfl rfl rfl ?_
          exact ⟨_, rfl, Or.inr (Or.inl ⟨c1, d3, rfl, rfl⟩)⟩
      · have d2 : ¬ V (42 + 2 * k) 1 = 0 := fun q => h37 (hz.2.mpr q)
        refine zBipush d_X12_stars_40 (v := -12) bc_m12 (q := 42) rfl ?_
        refine zIret d_X12_stars_42 rfl rfl rfl ?_
        exact ⟨_, rfl, Or.inr (Or.inr (Or.inl ⟨c1, d1, d2, rfl, rfl⟩))⟩
  · have c1 := bi_0.mp (by simpa using h14)
    refine zIconst d_X12_stars_17 (v := -1) ic_m1 (q := 18) rfl ?_
    refine zIret d_X12_stars_18 rfl rfl rfl ?_
    exact ⟨_, rfl, Or.inl ⟨c1, rfl, rfl⟩⟩
end S74

