theorem d_X12_compared_0 : decode (zmc m_X12_compared) 0 = .ok (.aload_n 0, 1) := by decide +kernel
theorem d_X12_compared_1 : decode (zmc m_X12_compared) 1 = .ok (.invokevirtual 233, 3) := by decide +kernel
theorem d_X12_compared_4 : decode (zmc m_X12_compared) 4 = .ok (.aload_n 0, 1) := by decide +kernel
theorem d_X12_compared_5 : decode (zmc m_X12_compared) 5 = .ok (.invokevirtual 206, 3) := by decide +kernel
theorem d_X12_compared_8 : decode (zmc m_X12_compared) 8 = .ok (.istore_n 1, 1) := by decide +kernel
theorem d_X12_compared_9 : decode (zmc m_X12_compared) 9 = .ok (.aload_n 0, 1) := by decide +kernel
theorem d_X12_compared_10 : decode (zmc m_X12_compared) 10 = .ok (.getfield 194, 3) := by decide +kernel
theorem d_X12_compared_13 : decode (zmc m_X12_compared) 13 = .ok (.ifCond .ge 21, 3) := by decide +kernel
theorem d_X12_compared_16 : decode (zmc m_X12_compared) 16 = .ok (.iload_n 1, 1) := by decide +kernel
theorem d_X12_compared_17 : decode (zmc m_X12_compared) 17 = .ok (.bipush 60, 2) := by decide +kernel
theorem d_X12_compared_19 : decode (zmc m_X12_compared) 19 = .ok (.if_icmp .eq 16, 3) := by decide +kernel
theorem d_X12_compared_22 : decode (zmc m_X12_compared) 22 = .ok (.iload_n 1, 1) := by decide +kernel
theorem d_X12_compared_23 : decode (zmc m_X12_compared) 23 = .ok (.bipush 61, 2) := by decide +kernel
theorem d_X12_compared_25 : decode (zmc m_X12_compared) 25 = .ok (.if_icmp .eq 10, 3) := by decide +kernel
theorem d_X12_compared_28 : decode (zmc m_X12_compared) 28 = .ok (.iload_n 1, 1) := by decide +kernel
theorem d_X12_compared_29 : decode (zmc m_X12_compared) 29 = .ok (.bipush 62, 2) := by decide +kernel
theorem d_X12_compared_31 : decode (zmc m_X12_compared) 31 = .ok (.if_icmp .eq 4, 3) := by decide +kernel
theorem d_X12_compared_34 : decode (zmc m_X12_compared) 34 = .ok (.return_, 1) := by decide +kernel
theorem d_X12_compared_35 : decode (zmc m_X12_compared) 35 = .ok (.aload_n 0, 1) := by decide +kernel
theorem d_X12_compared_36 : decode (zmc m_X12_compared) 36 = .ok (.dup, 1) := by decide +kernel
theorem d_X12_compared_37 : decode (zmc m_X12_compared) 37 = .ok (.getfield 191, 3) := by decide +kernel
theorem d_X12_compared_40 : decode (zmc m_X12_compared) 40 = .ok (.iconst 1, 1) := by decide +kernel
theorem d_X12_compared_41 : decode (zmc m_X12_compared) 41 = .ok (.iadd, 1) := by decide +kernel
theorem d_X12_compared_42 : decode (zmc m_X12_compared) 42 = .ok (.putfield 191, 3) := by decide +kernel
theorem d_X12_compared_45 : decode (zmc m_X12_compared) 45 = .ok (.aload_n 0, 1) := by decide +kernel
theorem d_X12_compared_46 : decode (zmc m_X12_compared) 46 = .ok (.invokevirtual 233, 3) := by decide +kernel
theorem d_X12_compared_49 : decode (zmc m_X12_compared) 49 = .ok (.aload_n 0, 1) := by decide +kernel
theorem d_X12_compared_50 : decode (zmc m_X12_compared) 50 = .ok (.iload_n 1, 1) := by decide +kernel
theorem d_X12_compared_51 : decode (zmc m_X12_compared) 51 = .ok (.iconst 0, 1) := by decide +kernel
theorem d_X12_compared_52 : decode (zmc m_X12_compared) 52 = .ok (.invokevirtual 210, 3) := by decide +kernel
theorem d_X12_compared_55 : decode (zmc m_X12_compared) 55 = .ok (.return_, 1) := by decide +kernel
theorem d_X12_figure_0 : decode (zmc m_X12_figure) 0 = .ok (.iconst 0, 1) := by decide +kernel
theorem d_X12_figure_1 : decode (zmc m_X12_figure) 1 = .ok (.istore_n 1, 1) := by decide +kernel
theorem d_X12_figure_2 : decode (zmc m_X12_figure) 2 = .ok (.iconst 0, 1) := by decide +kernel
theorem d_X12_figure_3 : decode (zmc m_X12_figure) 3 = .ok (.istore_n 2, 1) := by decide +kernel
theorem d_X12_figure_4 : decode (zmc m_X12_figure) 4 = .ok (.iload_n 2, 1) := by decide +kernel
theorem d_X12_figure_5 : decode (zmc m_X12_figure) 5 = .ok (.iconst 4, 1) := by decide +kernel
theorem d_X12_figure_6 : decode (zmc m_X12_figure) 6 = .ok (.if_icmp .ge 46, 3) := by decide +kernel
theorem d_X12_figure_9 : decode (zmc m_X12_figure) 9 = .ok (.aload_n 0, 1) := by decide +kernel
theorem d_X12_figure_10 : decode (zmc m_X12_figure) 10 = .ok (.invokevirtual 206, 3) := by decide +kernel
theorem d_X12_figure_13 : decode (zmc m_X12_figure) 13 = .ok (.bipush 48, 2) := by decide +kernel
theorem d_X12_figure_15 : decode (zmc m_X12_figure) 15 = .ok (.bipush 57, 2) := by decide +kernel
theorem d_X12_figure_17 : decode (zmc m_X12_figure) 17 = .ok (.invokestatic 127, 3) := by decide +kernel
theorem d_X12_figure_20 : decode (zmc m_X12_figure) 20 = .ok (.ifCond .eq 32, 3) := by decide +kernel
theorem d_X12_figure_23 : decode (zmc m_X12_figure) 23 = .ok (.bipush 10, 2) := by decide +kernel
theorem d_X12_figure_25 : decode (zmc m_X12_figure) 25 = .ok (.iload_n 1, 1) := by decide +kernel
theorem d_X12_figure_26 : decode (zmc m_X12_figure) 26 = .ok (.imul, 1) := by decide +kernel
theorem d_X12_figure_27 : decode (zmc m_X12_figure) 27 = .ok (.aload_n 0, 1) := by decide +kernel
theorem d_X12_figure_28 : decode (zmc m_X12_figure) 28 = .ok (.invokevirtual 206, 3) := by decide +kernel
theorem d_X12_figure_31 : decode (zmc m_X12_figure) 31 = .ok (.iadd, 1) := by decide +kernel
theorem d_X12_figure_32 : decode (zmc m_X12_figure) 32 = .ok (.bipush 48, 2) := by decide +kernel
theorem d_X12_figure_34 : decode (zmc m_X12_figure) 34 = .ok (.isub, 1) := by decide +kernel
theorem d_X12_figure_35 : decode (zmc m_X12_figure) 35 = .ok (.istore_n 1, 1) := by decide +kernel
theorem d_X12_figure_36 : decode (zmc m_X12_figure) 36 = .ok (.iinc 2 1, 3) := by decide +kernel
theorem d_X12_figure_39 : decode (zmc m_X12_figure) 39 = .ok (.aload_n 0, 1) := by decide +kernel
theorem d_X12_figure_40 : decode (zmc m_X12_figure) 40 = .ok (.dup, 1) := by decide +kernel
theorem d_X12_figure_41 : decode (zmc m_X12_figure) 41 = .ok (.getfield 191, 3) := by decide +kernel
theorem d_X12_figure_44 : decode (zmc m_X12_figure) 44 = .ok (.iconst 1, 1) := by decide +kernel
theorem d_X12_figure_45 : decode (zmc m_X12_figure) 45 = .ok (.iadd, 1) := by decide +kernel
theorem d_X12_figure_46 : decode (zmc m_X12_figure) 46 = .ok (.putfield 191, 3) := by decide +kernel
theorem d_X12_figure_49 : decode (zmc m_X12_figure) 49 = .ok (.goto (-45), 3) := by decide +kernel
theorem d_X12_figure_52 : decode (zmc m_X12_figure) 52 = .ok (.iload_n 2, 1) := by decide +kernel
theorem d_X12_figure_53 : decode (zmc m_X12_figure) 53 = .ok (.ifCond .eq 17, 3) := by decide +kernel
theorem d_X12_figure_56 : decode (zmc m_X12_figure) 56 = .ok (.aload_n 0, 1) := by decide +kernel
theorem d_X12_figure_57 : decode (zmc m_X12_figure) 57 = .ok (.invokevirtual 206, 3) := by decide +kernel
theorem d_X12_figure_60 : decode (zmc m_X12_figure) 60 = .ok (.bipush 48, 2) := by decide +kernel
theorem d_X12_figure_62 : decode (zmc m_X12_figure) 62 = .ok (.bipush 57, 2) := by decide +kernel
theorem d_X12_figure_64 : decode (zmc m_X12_figure) 64 = .ok (.invokestatic 127, 3) := by decide +kernel
theorem d_X12_figure_67 : decode (zmc m_X12_figure) 67 = .ok (.ifCond .eq 7, 3) := by decide +kernel
theorem d_X12_figure_70 : decode (zmc m_X12_figure) 70 = .ok (.aload_n 0, 1) := by decide +kernel
theorem d_X12_figure_71 : decode (zmc m_X12_figure) 71 = .ok (.invokevirtual 203, 3) := by decide +kernel
theorem d_X12_figure_74 : decode (zmc m_X12_figure) 74 = .ok (.aload_n 0, 1) := by decide +kernel
theorem d_X12_figure_75 : decode (zmc m_X12_figure) 75 = .ok (.iconst 1, 1) := by decide +kernel
theorem d_X12_figure_76 : decode (zmc m_X12_figure) 76 = .ok (.iload_n 1, 1) := by decide +kernel
theorem d_X12_figure_77 : decode (zmc m_X12_figure) 77 = .ok (.invokevirtual 210, 3) := by decide +kernel
theorem d_X12_figure_80 : decode (zmc m_X12_figure) 80 = .ok (.return_, 1) := by decide +kernel
/-! THE REFERENCE READS A TEXT: an operand -/
section S69
variable {g : zG} {l : Launch} {I : Nat → Nat → Int32} {T : Nat → Int32} {L : Nat → Nat → Int64} {fs : Nat × Nat × Option Nat} {m : Nat}
theorem sp_X12_compared (hT : I 79 = T) (h21 : I 64 21 = nI m) (hm : m ≤ 120) {f : Nat → zRr} (hf : zGd m f) {o D : Nat} (hop : ∀ d, D ≤ d → yPc g l d L fs I T m m_X12_sum f o) {d : Nat} (hd : D + 1 ≤ d) (hd3 : 3 ≤ d) : yPc g l d L fs I T m m_X12_compared (zJoinP f T m (nI 2) 1) o := by
  intro J p n hJ
  have hp := hJ.2.2.2
  have hnp := hJ.2.2.1
  have bad : ∀ J1 p1 n1, yBdS I J1 m p1 n1 (zJoinP f T m (nI 2) 1 p).1 → p ≤ p1 → n1 + p ≤ n + p1 → ((zJoinP f T m (nI 2) 1 p).2 = none ∨ yDg T m (zJoinP f T m (nI 2) 1 p).1) → zA g l d m_X12_compared J1 L fs 4 [(0, .ref 64)] (zV (fun w => ∃ J', w = zU J' L fs ∧ yR I J T m p o n (zJoinP f T m (nI 2) 1 p) J')) := by
    intro J1 p1 n1 h1 hp1 hn1 h2
    have hT1 : J1 79 = T := (h1.1.1 79 (by decide) (by decide) (by decide)).trans hT
    have h211 : J1 64 21 = nI m := (h1.1.2.1 21 (by decide)).trans h21
    obtain ⟨p', n', k3, k4, k5, k6, k7⟩ := h1.2.2
    refine zAloadN d_X12_compared_4 rfl rfl (q := 5) rfl ?_
    refine zCallVP d_X12_compared_5 ml_X12_206 k_X12_look ki_X12_look ks_X12_look (sp_X12_look (d := d - 1) (by omega) hT1 h211 hm k3 (by omega)) rfl rfl sh_64 (by decide) rfl (by decide) (Nat.le_of_ble_eq_true rfl) (by decide) (by omega) zns100 (q := 8) rfl ?_
    refine zIstoreN d_X12_compared_8 rfl (by decide) rfl (q := 9) rfl ?_
    refine zAloadN d_X12_compared_9 rfl rfl (q := 10) rfl ?_
    refine zGetI d_X12_compared_10 ff_X12_194 sh_64 (by decide) (q := 13) rfl ?_
    refine zIf_ge d_X12_compared_13 (tgt := 34) (q := 16) (by decide) rfl (fun h13 => ?_) (fun h => absurd (by rw [h1.2.1.1]; exact zn_ge (by have := h1.2.1.2; omega)) h)
    refine zVret d_X12_compared_34 rfl rfl ?_
    exact ⟨rfl, J1, rfl, Or.inr ⟨h2, yBdS_up h1 hp1 hn1⟩⟩
  have tail : ∀ s J3 n3, s.toInt8.toInt32.toInt8.toInt32 = s → J3 64 25 = nI n3 → n3 < 130 → yR I J T m p o n (zJoinP f T m (nI 2) 1 p) (yAdd J3 n3 s 0) → zA g l d m_X12_compared J3 L fs 49 [(1, .int s), (0, .ref 64)] (zV (fun w => ∃ J', w = zU J' L fs ∧ yR I J T m p o n (zJoinP f T m (nI 2) 1 p) J')) := by
    intro s J3 n3 hs h25 h130 KK
    refine zAloadN d_X12_compared_49 rfl rfl (q := 50) rfl ?_
    refine zIloadN d_X12_compared_50 rfl rfl (q := 51) rfl ?_
    refine zIconst d_X12_compared_51 (v := 0) ic_0 (q := 52) rfl ?_
    refine zCallVV d_X12_compared_52 ml_X12_210 k_X12_addStep ki_X12_addStep ks_X12_addStep (sp_X12_addStep (d := d - 1) (by omega) h25 h130 hs) rfl rfl sh_64 (by decide) rfl (by decide) (Nat.le_of_ble_eq_true rfl) (by decide) (by omega) zns100 (q := 55) rfl (fun w' hw' => ?_)
    subst hw'
    refine zVret d_X12_compared_55 rfl rfl ?_
    exact ⟨rfl, _, rfl, KK⟩
  have good : ∀ J1 p1 c, yOkS I J1 m p1 o (n + c.length) → yLy J J1 n c → zMoreJ f T m (nI 2) 1 p1 c = zJoinP f T m (nI 2) 1 p → p + c.length ≤ p1 → zA g l d m_X12_compared J1 L fs 4 [(0, .ref 64)] (zV (fun w => ∃ J', w = zU J' L fs ∧ yR I J T m p o n (zJoinP f T m (nI 2) 1 p) J')) := by
    intro J1 p1 c h1 hly hR hpc
    have hT1 : J1 79 = T := (h1.1.1 79 (by decide) (by decide) (by decide)).trans hT
    have h211 : J1 64 21 = nI m := (h1.1.2.1 21 (by decide)).trans h21
    obtain ⟨h22, h23, h24, -⟩ := h1.2.1
    have hpm := h1.2.2.2
    have fin : ¬ zTi (zAt T m p1) = nI 2 → ∃ J', zU J1 L fs = zU J' L fs ∧ yR I J T m p o n (zJoinP f T m (nI 2) 1 p) J' := fun hno => by
      rw [zMoreJ_no hno] at hR
      exact ⟨J1, rfl, by rw [← hR]; exact Or.inl ⟨c, rfl, h1, hly⟩⟩
    refine zAloadN d_X12_compared_4 rfl rfl (q := 5) rfl ?_
    refine zCallVP d_X12_compared_5 ml_X12_206 k_X12_look ki_X12_look ks_X12_look (sp_X12_look (d := d - 1) (by omega) hT1 h211 hm h22 (by omega)) rfl rfl sh_64 (by decide) rfl (by decide) (Nat.le_of_ble_eq_true rfl) (by decide) (by omega) zns100 (q := 8) rfl ?_
    refine zIstoreN d_X12_compared_8 rfl (by decide) rfl (q := 9) rfl ?_
    refine zAloadN d_X12_compared_9 rfl rfl (q := 10) rfl ?_
    refine zGetI d_X12_compared_10 ff_X12_194 sh_64 (by decide) (q := 13) rfl ?_
    refine zIf_ge d_X12_compared_13 (tgt := 34) (q := 16) (by decide) rfl (fun h => absurd h (by rw [h23]; decide)) (fun h13 => ?_)
    refine zIloadN d_X12_compared_16 rfl rfl (q := 17) rfl ?_
    refine zBipush d_X12_compared_17 (v := 60) bc_60 (q := 19) rfl ?_
    refine zIcmp_eq d_X12_compared_19 (tgt := 35) (q := 22) (by decide) rfl (fun h19 => ?_) (fun h19 => ?_)
    · have hsx := zTi_2.mpr (Or.inl h19)
      have hs : zTi (zAt T m p1) = nI 2 := hsx
      have hpl := zTi_in (by decide) hs
      have hg := hf (p1 + 1) (by omega)
      have hsg := ySg (zTi_s (by decide) hs)
      refine zAloadN d_X12_compared_35 rfl rfl (q := 36) rfl ?_
      refine zDup d_X12_compared_36 rfl (q := 37) rfl ?_
      refine zGetI d_X12_compared_37 ff_X12_191 sh_64 (by decide) (q := 40) rfl ?_
      refine zIconst d_X12_compared_40 (v := 1) ic_1 (q := 41) rfl ?_
      refine zIadd d_X12_compared_41 (q := 42) rfl ?_
      rw [h22, nI_1]
      refine zPutI d_X12_compared_42 ff_X12_191 rfl rfl rfl sh_64 (by decide) (q := 45) rfl ?_
      refine zAloadN d_X12_compared_45 rfl rfl (q := 46) rfl ?_
      refine zCallVV d_X12_compared_46 ml_X12_233 k_X12_sum ki_X12_sum ks_X12_sum (hop (d - 1) (by omega) _ (p1 + 1) (n + c.length) (yOkS_go h1 hpl)) rfl rfl sh_64 (by decide) rfl (by decide) (Nat.le_of_ble_eq_true rfl) (by decide) (by omega) zns100 (q := 49) rfl (fun w' hw' => ?_)
      obtain ⟨J3, rfl, hr⟩ := hw'
      refine zSub [0, 1] rfl ?_
      rcases hr with ⟨c1, e1, ok, ly⟩ | ⟨e1, bd⟩
      · have e2 := zMoreJ_ok (k := 0) (c := c) hs e1
        have hg3 := hg.2.2 c1 e1
        have hn2 := h1.2.2.1
        have hok := ok.2.2.2
        refine tail (zAt T m p1) J3 (n + c.length + c1.length) hsg.1 ok.2.1.2.2.2 (by omega) ?_
        have el : n + (c ++ (c1 ++ [(zAt T m p1, (0 : Int32))])).length = n + c.length + c1.length + 1 := by rw [List.length_append, List.length_append]; show n + (c.length + (c1.length + 1)) = _; omega
        have e3 : zMoreJ f T m (nI 2) 0 (f (p1 + 1)).1 (c ++ (c1 ++ [(zAt T m p1, 0)])) = ((f (p1 + 1)).1, some (c ++ (c1 ++ [(zAt T m p1, 0)]))) := rfl
        rw [← hR, e2, e3]
        exact Or.inl ⟨c ++ (c1 ++ [(zAt T m p1, 0)]), rfl, by rw [el]; exact yAdd_ok ⟨ok.1, ok.2.1⟩ (by omega) ok.2.2.2, yLy_app hly (yLy_app (J1 := J3) ly (yAdd_ly hsg.2))⟩
      · have e2 := zMoreJ_bad (k := 0) (c := c) (by decide) hs e1
        rw [hR] at e2
        have hn2 := h1.2.2.1
        obtain ⟨n', q1, q2, q3, q4⟩ := yBdS_add (p := p) (n := n) (a := zAt T m p1) (b := 0) bd (by omega) (by omega)
        rw [← e2.1] at q4
        exact tail (zAt T m p1) J3 n' hsg.1 q1 (by have := q3 (by omega); omega) (Or.inr ⟨e2.2, q4⟩)
    · refine zIloadN d_X12_compared_22 rfl rfl (q := 23) rfl ?_
      refine zBipush d_X12_compared_23 (v := 61) bc_61 (q := 25) rfl ?_
      refine zIcmp_eq d_X12_compared_25 (tgt := 35) (q := 28) (by decide) rfl (fun h25 => ?_) (fun h25 => ?_)
      · have hsx := zTi_2.mpr (Or.inr (Or.inl h25))
        have hs : zTi (zAt T m p1) = nI 2 := hsx
        have hpl := zTi_in (by decide) hs
        have hg := hf (p1 + 1) (by omega)
        have hsg := ySg (zTi_s (by decide) hs)
        refine zAloadN d_X12_compared_35 rfl rfl (q := 36) rfl ?_
        refine zDup d_X12_compared_36 rfl (q := 37) rfl ?_
        refine zGetI d_X12_compared_37 ff_X12_191 sh_64 (by decide) (q := 40) rfl ?_
        refine zIconst d_X12_compared_40 (v := 1) ic_1 (q := 41) rfl ?_
        refine zIadd d_X12_compared_41 (q := 42) rfl ?_
        rw [h22, nI_1]
        refine zPutI d_X12_compared_42 ff_X12_191 rfl rfl rfl sh_64 (by decide) (q := 45) rfl ?_
        refine zAloadN d_X12_compared_45 rfl rfl (q := 46) rfl ?_
        refine zCallVV d_X12_compared_46 ml_X12_233 k_X12_sum ki_X12_sum ks_X12_sum (hop (d - 1) (by omega) _ (p1 + 1) (n + c.length) (yOkS_go h1 hpl)) rfl rfl sh_64 (by decide) rfl (by decide) (Nat.le_of_ble_eq_true rfl) (by decide) (by omega) zns100 (q := 49) rfl (fun w' hw' => ?_)
        obtain ⟨J3, rfl, hr⟩ := hw'
        refine zSub [0, 1] rfl ?_
        rcases hr with ⟨c1, e1, ok, ly⟩ | ⟨e1, bd⟩
        · have e2 := zMoreJ_ok (k := 0) (c := c) hs e1
          have hg3 := hg.2.2 c1 e1
          have hn2 := h1.2.2.1
          have hok := ok.2.2.2
          refine tail (zAt T m p1) J3 (n + c.length + c1.length) hsg.1 ok.2.1.2.2.2 (by omega) ?_
          have el : n + (c ++ (c1 ++ [(zAt T m p1, (0 : Int32))])).length = n + c.length + c1.length + 1 := by rw [List.length_append, List.length_append]; show n + (c.length + (c1.length + 1)) = _; omega
          have e3 : zMoreJ f T m (nI 2) 0 (f (p1 + 1)).1 (c ++ (c1 ++ [(zAt T m p1, 0)])) = ((f (p1 + 1)).1, some (c ++ (c1 ++ [(zAt T m p1, 0)]))) := rfl
          rw [← hR, e2, e3]
          exact Or.inl ⟨c ++ (c1 ++ [(zAt T m p1, 0)]), rfl, by rw [el]; exact yAdd_ok ⟨ok.1, ok.2.1⟩ (by omega) ok.2.2.2, yLy_app hly (yLy_app (J1 := J3) ly (yAdd_ly hsg.2))⟩
        · have e2 := zMoreJ_bad (k := 0) (c := c) (by decide) hs e1
          rw [hR] at e2
          have hn2 := h1.2.2.1
          obtain ⟨n', q1, q2, q3, q4⟩ := yBdS_add (p := p) (n := n) (a := zAt T m p1) (b := 0) bd (by omega) (by omega)
          rw [← e2.1] at q4
          exact tail (zAt T m p1) J3 n' hsg.1 q1 (by have := q3 (by omega); omega) (Or.inr ⟨e2.2, q4⟩)
      · refine zIloadN d_X12_compared_28 rfl rfl (q := 29) rfl ?_
        refine zBipush d_X12_compared_29 (v := 62) bc_62 (q := 31) rfl ?_
        refine zIcmp_eq d_X12_compared_31 (tgt := 35) (q := 34) (by decide) rfl (fun h31 => ?_) (fun h31 => ?_)
        · have hsx := zTi_2.mpr (Or.inr (Or.inr h31))
          have hs : zTi (zAt T m p1) = nI 2 := hsx
          have hpl := zTi_in (by decide) hs
          have hg := hf (p1 + 1) (by omega)
          have hsg := ySg (zTi_s (by decide) hs)
          refine zAloadN d_X12_compared_35 rfl rfl (q := 36) rfl ?_
          refine zDup d_X12_compared_36 rfl (q := 37) rfl ?_
          refine zGetI d_X12_compared_37 ff_X12_191 sh_64 (by decide) (q := 40) rfl ?_
          refine zIconst d_X12_compared_40 (v := 1) ic_1 (q := 41) rfl ?_
          refine zIadd d_X12_compared_41 (q := 42) rfl ?_
          rw [h22, nI_1]
          refine zPutI d_X12_compared_42 ff_X12_191 rfl rfl rfl sh_64 (by decide) (q := 45) rfl ?_
          refine zAloadN d_X12_compared_45 rfl rfl (q := 46) rfl ?_
          refine zCallVV d_X12_compared_46 ml_X12_233 k_X12_sum ki_X12_sum ks_X12_sum (hop (d - 1) (by omega) _ (p1 + 1) (n + c.length) (yOkS_go h1 hpl)) rfl rfl sh_64 (by decide) rfl (by decide) (Nat.le_of_ble_eq_true rfl) (by decide) (by omega) zns100 (q := 49) rfl (fun w' hw' => ?_)
          obtain ⟨J3, rfl, hr⟩ := hw'
          refine zSub [0, 1] rfl ?_
          rcases hr with ⟨c1, e1, ok, ly⟩ | ⟨e1, bd⟩
          · have e2 := zMoreJ_ok (k := 0) (c := c) hs e1
            have hg3 := hg.2.2 c1 e1
            have hn2 := h1.2.2.1
            have hok := ok.2.2.2
            refine tail (zAt T m p1) J3 (n + c.length + c1.length) hsg.1 ok.2.1.2.2.2 (by omega) ?_
            have el : n + (c ++ (c1 ++ [(zAt T m p1, (0 : Int32))])).length = n + c.length + c1.length + 1 := by rw [List.length_append, List.length_append]; show n + (c.length + (c1.length + 1)) = _; omega
            have e3 : zMoreJ f T m (nI 2) 0 (f (p1 + 1)).1 (c ++ (c1 ++ [(zAt T m p1, 0)])) = ((f (p1 + 1)).1, some (c ++ (c1 ++ [(zAt T m p1, 0)]))) := rfl
            rw [← hR, e2, e3]
            exact Or.inl ⟨c ++ (c1 ++ [(zAt T m p1, 0)]), rfl, by rw [el]; exact yAdd_ok ⟨ok.1, ok.2.1⟩ (by omega) ok.2.2.2, yLy_app hly (yLy_app (J1 := J3) ly (yAdd_ly hsg.2))⟩
          · have e2 := zMoreJ_bad (k := 0) (c := c) (by decide) hs e1
            rw [hR] at e2
            have hn2 := h1.2.2.1
            obtain ⟨n', q1, q2, q3, q4⟩ := yBdS_add (p := p) (n := n) (a := zAt T m p1) (b := 0) bd (by omega) (by omega)
            rw [← e2.1] at q4
            exact tail (zAt T m p1) J3 n' hsg.1 q1 (by have := q3 (by omega); omega) (Or.inr ⟨e2.2, q4⟩)
        · have hno : ¬ zTi (zAt T m p1) = nI 2 := fun z => by rcases zTi_2.mp z with y | y | y; exact h19 y; exact h25 y; exact h31 y
          refine zVret d_X12_compared_34 rfl rfl ?_
          exact ⟨rfl, fin hno⟩
  refine zSp_of (lv := [(0, .ref 64)]) k_X12_compared rfl (Nat.le_of_ble_eq_true rfl) ?_
  refine zAloadN d_X12_compared_0 rfl rfl (q := 1) rfl ?_
  refine zCallVV d_X12_compared_1 ml_X12_233 k_X12_sum ki_X12_sum ks_X12_sum (hop (d - 1) (by omega) J p n hJ) rfl rfl sh_64 (by decide) rfl (by decide) (Nat.le_of_ble_eq_true rfl) (by decide) (by omega) zns100 (q := 4) rfl (fun w' hw' => ?_)
  obtain ⟨J1, rfl, hr⟩ := hw'
  refine zSub [0] rfl ?_
  rcases hr with ⟨c1, e1, ok, ly⟩ | ⟨e1, bd⟩
  · have hg3 := (hf p hp).2.2 c1 e1
    exact good J1 (f p).1 c1 ok ly (zJoinP_ok e1).symm hg3.1
  · have e2 := zJoinP_bad (n := 1) (t := 2) (by decide) e1
    rw [← e2.1] at bd
    exact bad J1 p n bd (Nat.le_refl _) (Nat.le_refl _) e2.2
theorem sp_eitherOf (hT : I 79 = T) (h21 : I 64 21 = nI m) (hm : m ≤ 120) {f : Nat → zRr} (hf : zGd m f) {o D : Nat} (hD : 3 ≤ D) (hop : ∀ d, D ≤ d → yPc g l d L fs I T m m_X12_operand f o) {d : Nat} (hd : D + 5 ≤ d) : yPc g l d L fs I T m m_X12_either (zLev f T m 5) o := by
  have h1 : ∀ d, D + 1 ≤ d → yPc g l d L fs I T m m_X12_product (zLev f T m 1) o := fun d hd => sp_X12_product hT h21 hm hf hop hd (by omega)
  have h2 : ∀ d, D + 2 ≤ d → yPc g l d L fs I T m m_X12_sum (zLev f T m 2) o := fun d hd => sp_X12_sum hT h21 hm (zLev_gd hf 1 (by decide)) h1 hd (by omega)
  have h3 : ∀ d, D + 3 ≤ d → yPc g l d L fs I T m m_X12_compared (zLev f T m 3) o := fun d hd => sp_X12_compared hT h21 hm (zLev_gd hf 2 (by decide)) h2 hd (by omega)
  have h4 : ∀ d, D + 4 ≤ d → yPc g l d L fs I T m m_X12_both (zLev f T m 4) o := fun d hd => sp_X12_both hT h21 hm (zLev_gd hf 3 (by decide)) h3 hd (by omega)
  exact sp_X12_either hT h21 hm (zLev_gd hf 4 (by decide)) h4 hd (by omega)
def yGo (J : Nat → Nat → Int32) (q : Nat) : Nat → Nat → Int32 := zup J 64 (zup (J 64) 22 (nI q))
theorem sp_X12_figure (hT : I 79 = T) (h21 : I 64 21 = nI m) (hm : m ≤ 120) {o : Nat} {d : Nat} (hd : 2 ≤ d) {J : Nat → Nat → Int32} {p n : Nat} (hJ : yOkS I J m p o n) (hneg : zNm (zAt T m p) < 0) : zSp g l d 100 m_X12_figure [.ref 64] (zU J L fs) (zV (fun w => ∃ J', w = zU J' L fs ∧ yR I J T m p o n (zOpS T m p) J')) := by
  have hT1 : J 79 = T := (hJ.1.1 79 (by decide) (by decide) (by decide)).trans hT
  have h211 : J 64 21 = nI m := (hJ.1.2.1 21 (by decide)).trans h21
  obtain ⟨h22, h23, h24, h25⟩ := hJ.2.1
  have hp := hJ.2.2.2
  have hnp := hJ.2.2.1
  obtain ⟨D, eD⟩ : ∃ D, D = zNd T m p := ⟨_, rfl⟩
  have sD := zrun_spec (zDgb T m p) 4 0 (Nat.zero_le _)
  have hD4 : D ≤ 4 := by rw [eD]; exact sD.2.1
  have dig : ∀ i, zDgb T m p i = true ↔ yDg T m (p + i) := fun i => by unfold zDgb; rw [decide_eq_true_eq]
  have zero : D = 0 ↔ ¬ yDg T m p := by
    constructor
    · intro e q
      have := (dig 0).mpr q
      rw [eD] at e
      exact sD.2.2.2 (by show zNd T m p < 4; omega) (by show zDgb T m p (zNd T m p) = true; rw [e]; exact this)
    · intro q
      rcases Nat.eq_zero_or_pos D with e | e
      · exact e
      · exact absurd ((dig 0).mp (sD.2.2.1 0 (Nat.le_refl _) (by show 0 < zNd T m p; omega))) q
  have pos : ¬ D = 0 → zOpS T m p = (p + D, some [(0, zNv T m p D)]) := fun e => by
    have q : yDg T m p := Decidable.byContradiction (fun z => e (zero.mpr z))
    unfold zOpS; rw [eD]; exact if_pos q
  have non : D = 0 → zOpS T m p = (p, none) := fun e => by
    have q := zero.mp e
    unfold zOpS
    rw [if_neg q, if_pos hneg]
  -- behind the digits: at 70 a fault, at 74 none
  have hgo : ∀ q, p ≤ q → q ≤ m → yOkS I (yGo J q) m q o n := fun q hq hqm => ⟨yFrP_fld hJ.1 (by decide), ⟨rfl, h23, h24, h25⟩, by omega, hqm⟩
  have step : ∀ v J3 n3, J3 64 25 = nI n3 → n3 < 130 → yR I J T m p o n (zOpS T m p) (yAdd J3 n3 1 v) → zA g l d m_X12_figure J3 L fs 74 [(1, .int v), (0, .ref 64)] (zV (fun w => ∃ J', w = zU J' L fs ∧ yR I J T m p o n (zOpS T m p) J')) := by
    intro v J3 n3 h25 h130 KK
    refine zAloadN d_X12_figure_74 rfl rfl (q := 75) rfl ?_
    refine zIconst d_X12_figure_75 (v := 1) ic_1 (q := 76) rfl ?_
    refine zIloadN d_X12_figure_76 rfl rfl (q := 77) rfl ?_
    refine zCallVV d_X12_figure_77 ml_X12_210 k_X12_addStep ki_X12_addStep ks_X12_addStep (sp_X12_addStep (d := d - 1) (by omega) h25 h130 (by decide)) rfl rfl sh_64 (by decide) rfl (by decide) (Nat.le_of_ble_eq_true rfl) (by decide) (by omega) zns100 (q := 80) rfl (fun w' hw' => ?_)
    subst hw'
    refine zVret d_X12_figure_80 rfl rfl ?_
    exact ⟨rfl, _, rfl, KK⟩
  have fault : ∀ v, p + D ≤ m → (D = 0 ∨ yDg T m (p + D)) → zA g l d m_X12_figure (yGo J (p + D)) L fs 70 [(1, .int v), (0, .ref 64)] (zV (fun w => ∃ J', w = zU J' L fs ∧ yR I J T m p o n (zOpS T m p) J')) := by
    intro v hpD hbad
    have hok := hgo (p + D) (by omega) hpD
    refine zAloadN d_X12_figure_70 rfl rfl (q := 71) rfl ?_
    refine zCallVV d_X12_figure_71 ml_X12_203 k_X12_wrong ki_X12_wrong ks_X12_wrong (sp_X12_wrong (d := d - 1) (by omega) hok.2.1.2.1) rfl rfl sh_64 (by decide) rfl (by decide) (Nat.le_of_ble_eq_true rfl) (by decide) (by omega) zns100 (q := 74) rfl (fun w' hw' => ?_)
    subst hw'
    rw [hok.2.1.1]
    refine zSub [0, 1] rfl ?_
    refine step v _ n h25 (by omega) (Or.inr ⟨?_, ?_⟩)
    · rcases hbad with e | e
      · rw [non e]; exact Or.inl rfl
      · rcases Nat.eq_zero_or_pos D with q | q
        · rw [non q]; exact Or.inl rfl
        · rw [pos (by omega)]; exact Or.inr e
    · have e1 : (zOpS T m p).1 = p + D := by
        rcases Nat.eq_zero_or_pos D with q | q
        · rw [non q]; show p = p + D; omega
        · rw [pos (by omega)]
      rw [e1]
      exact ⟨yFrP_add (yFrP_fld hok.1 (by decide)), ⟨rfl, hpD⟩, p + D, n + 1, rfl, rfl, by omega, hpD, by omega⟩
  have behind : p + D ≤ m → zA g l d m_X12_figure (yGo J (p + D)) L fs 52 [(2, .int (nI D)), (1, .int (zNv T m p D)), (0, .ref 64)] (zV (fun w => ∃ J', w = zU J' L fs ∧ yR I J T m p o n (zOpS T m p) J')) := by
    intro hpD
    have hok := hgo (p + D) (by omega) hpD
    refine zIloadN d_X12_figure_52 rfl rfl (q := 53) rfl ?_
    refine zIf_eq d_X12_figure_53 (tgt := 70) (q := 56) (by decide) rfl (fun h53 => ?_) (fun h53 => ?_)
    · have e0 : D = 0 := (nI_eq (b := 0) (by omega) (by decide)).mp h53
      have hbad : D = 0 ∨ yDg T m (p + D) := Or.inl e0
      refine zSub [1, 2] rfl ?_
      exact fault _ hpD hbad
    · have e0 : ¬ D = 0 := fun z => h53 (congrArg nI z)
      refine zAloadN d_X12_figure_56 rfl rfl (q := 57) rfl ?_
      refine zCallVP d_X12_figure_57 ml_X12_206 k_X12_look ki_X12_look ks_X12_look (sp_X12_look (d := d - 1) (J := yGo J (p + D)) (by omega) hT1 h211 hm rfl (by omega)) rfl rfl sh_64 (by decide) rfl (by decide) (Nat.le_of_ble_eq_true rfl) (by decide) (by omega) zns100 (q := 60) rfl ?_
      refine zBipush d_X12_figure_60 (v := 48) bc_48 (q := 62) rfl ?_
      refine zBipush d_X12_figure_62 (v := 57) bc_57 (q := 64) rfl ?_
      refine zCallSP d_X12_figure_64 ml_X12_127 k_X12_in kt_X12_in (sp_X12_in (d := d - 1) (by omega) ) rfl rfl (Nat.le_of_ble_eq_true rfl) (by decide) (by omega) zns100 (q := 67) rfl ?_
      refine zIf_eq d_X12_figure_67 (tgt := 74) (q := 70) (by decide) rfl (fun h67 => ?_) (fun h67 => ?_)
      · have hnd := bi_0.mp h67
        refine zSub [1, 2] rfl ?_
        refine step _ _ n h25 (by omega) (Or.inl ⟨[(0, zNv T m p D)], by rw [pos e0], ?_, ?_⟩)
        · rw [pos e0]
          exact yAdd_ok (J := yGo J (p + D)) ⟨hok.1, hok.2.1⟩ (by omega) hpD
        · exact yAdd_ly (J := yGo J (p + D)) (by decide)
      · have hbad : D = 0 ∨ yDg T m (p + D) := Or.inr (bi_n0.mp h67)
        refine zSub [1, 2] rfl ?_
        exact fault _ hpD hbad
  have loop : ∀ i, i ≤ 4 → p + i ≤ m → zrun (zDgb T m p) 4 i = D → zA g l d m_X12_figure (yGo J (p + i)) L fs 4 [(2, .int (nI i)), (1, .int (zNv T m p i)), (0, .ref 64)] (zV (fun w => ∃ J', w = zU J' L fs ∧ yR I J T m p o n (zOpS T m p) J')) := by
    refine zloop 4 (fun i hi ih hpm hx => ?_)
    refine zIloadN d_X12_figure_4 rfl rfl (q := 5) rfl ?_
    refine zIconst d_X12_figure_5 (v := 4) ic_4 (q := 6) rfl ?_
    refine zIcmp_ge d_X12_figure_6 (tgt := 52) (q := 9) (by decide) rfl (fun h6 => ?_) (fun h6 => ?_)
    · have e := nle (b := 4) h6
      have ei : i = D := by rw [← hx, zrun_end e]
      refine zSub [0, 1, 2] rfl ?_
      subst ei
      exact behind hpm
    · have hlt := nnle (b := 4) h6
      refine zAloadN d_X12_figure_9 rfl rfl (q := 10) rfl ?_
      refine zCallVP d_X12_figure_10 ml_X12_206 k_X12_look ki_X12_look ks_X12_look (sp_X12_look (d := d - 1) (J := yGo J (p + i)) (by omega) hT1 h211 hm rfl (by omega)) rfl rfl sh_64 (by decide) rfl (by decide) (Nat.le_of_ble_eq_true rfl) (by decide) (by omega) zns100 (q := 13) rfl ?_
      refine zBipush d_X12_figure_13 (v := 48) bc_48 (q := 15) rfl ?_
      refine zBipush d_X12_figure_15 (v := 57) bc_57 (q := 17) rfl ?_
      refine zCallSP d_X12_figure_17 ml_X12_127 k_X12_in kt_X12_in (sp_X12_in (d := d - 1) (by omega) ) rfl rfl (Nat.le_of_ble_eq_true rfl) (by decide) (by omega) zns100 (q := 20) rfl ?_
      refine zIf_eq d_X12_figure_20 (tgt := 52) (q := 23) (by decide) rfl (fun h20 => ?_) (fun h20 => ?_)
      · have ei : i = D := by rw [← hx, zrun_f (fun z => bi_0.mp h20 ((dig i).mp z))]
        refine zSub [0, 1, 2] rfl ?_
        subst ei
        exact behind hpm
      · have hdd := bi_n0.mp h20
        rw [zrun_t hlt ((dig i).mpr hdd)] at hx
        have hlm : p + i < m := zAt_in (fun e => by rw [e] at hdd; exact absurd hdd (by decide))
        refine zBipush d_X12_figure_23 (v := 10) bc_10 (q := 25) rfl ?_
        refine zIloadN d_X12_figure_25 rfl rfl (q := 26) rfl ?_
        refine zImul d_X12_figure_26 (q := 27) rfl ?_
        refine zAloadN d_X12_figure_27 rfl rfl (q := 28) rfl ?_
        refine zCallVP d_X12_figure_28 ml_X12_206 k_X12_look ki_X12_look ks_X12_look (sp_X12_look (d := d - 1) (J := yGo J (p + i)) (by omega) hT1 h211 hm rfl (by omega)) rfl rfl sh_64 (by decide) rfl (by decide) (Nat.le_of_ble_eq_true rfl) (by decide) (by omega) zns100 (q := 31) rfl ?_
        refine zIadd d_X12_figure_31 (q := 32) rfl ?_
        refine zBipush d_X12_figure_32 (v := 48) bc_48 (q := 34) rfl ?_
        refine zIsub d_X12_figure_34 (q := 35) rfl ?_
        refine zIstoreN d_X12_figure_35 rfl (by decide) rfl (q := 36) rfl ?_
        refine zIinc d_X12_figure_36 rfl (zinc _) (by decide) rfl (q := 39) rfl ?_
        refine zAloadN d_X12_figure_39 rfl rfl (q := 40) rfl ?_
        refine zDup d_X12_figure_40 rfl (q := 41) rfl ?_
        refine zGetI d_X12_figure_41 ff_X12_191 sh_64 (by decide) (q := 44) rfl ?_
        refine zIconst d_X12_figure_44 (v := 1) ic_1 (q := 45) rfl ?_
        refine zIadd d_X12_figure_45 (q := 46) rfl ?_
        rw [show (yGo J (p + i)) 64 22 = nI (p + i) from rfl, nI_1]
        refine zPutI d_X12_figure_46 ff_X12_191 rfl rfl rfl sh_64 (by decide) (q := 49) rfl ?_
        refine zGoto d_X12_figure_49 (q := 4) (by decide) ?_
        refine zSub [0, 1, 2] rfl ?_
        have h2 := ih hlt hlm hx
        rw [show yGo J (p + (i + 1)) = zup (yGo J (p + i)) 64 (zup ((yGo J (p + i)) 64) 22 (nI (p + i + 1))) by unfold yGo; rw [zup_zup, zup_eq, zup_zup]; rfl] at h2
        exact h2
  have e0 : yGo J (p + 0) = J := by unfold yGo; rw [Nat.add_zero, ← h22, zup_self, zup_self]
  refine zSp_of (lv := [(0, .ref 64)]) k_X12_figure rfl (Nat.le_of_ble_eq_true rfl) ?_
  refine zIconst d_X12_figure_0 (v := 0) ic_0 (q := 1) rfl ?_
  refine zIstoreN d_X12_figure_1 rfl (by decide) rfl (q := 2) rfl ?_
  refine zIconst d_X12_figure_2 (v := 0) ic_0 (q := 3) rfl ?_
  refine zIstoreN d_X12_figure_3 rfl (by decide) rfl (q := 4) rfl ?_
  refine zSub [0, 1, 2] rfl ?_
  have h0 := loop 0 (by decide) hp eD.symm
  rw [e0] at h0
  exact h0
end S69

