theorem d_X10_faultInto_0 : decode (zmc m_X10_faultInto) 0 = .ok (.aload_n 1, 1) := by decide +kernel
theorem d_X10_faultInto_1 : decode (zmc m_X10_faultInto) 1 = .ok (.invokevirtual 19, 3) := by decide +kernel
theorem d_X10_faultInto_4 : decode (zmc m_X10_faultInto) 4 = .ok (.aload_n 0, 1) := by decide +kernel
theorem d_X10_faultInto_5 : decode (zmc m_X10_faultInto) 5 = .ok (.aload_n 1, 1) := by decide +kernel
theorem d_X10_faultInto_6 : decode (zmc m_X10_faultInto) 6 = .ok (.putfield 24, 3) := by decide +kernel
theorem d_X10_faultInto_9 : decode (zmc m_X10_faultInto) 9 = .ok (.aload_n 0, 1) := by decide +kernel
theorem d_X10_faultInto_10 : decode (zmc m_X10_faultInto) 10 = .ok (.iconst 0, 1) := by decide +kernel
theorem d_X10_faultInto_11 : decode (zmc m_X10_faultInto) 11 = .ok (.putfield 28, 3) := by decide +kernel
theorem d_X10_faultInto_14 : decode (zmc m_X10_faultInto) 14 = .ok (.iconst 1, 1) := by decide +kernel
theorem d_X10_faultInto_15 : decode (zmc m_X10_faultInto) 15 = .ok (.istore_n 2, 1) := by decide +kernel
theorem d_X10_faultInto_16 : decode (zmc m_X10_faultInto) 16 = .ok (.iconst 0, 1) := by decide +kernel
theorem d_X10_faultInto_17 : decode (zmc m_X10_faultInto) 17 = .ok (.istore_n 3, 1) := by decide +kernel
theorem d_X10_faultInto_18 : decode (zmc m_X10_faultInto) 18 = .ok (.iload_n 3, 1) := by decide +kernel
theorem d_X10_faultInto_19 : decode (zmc m_X10_faultInto) 19 = .ok (.bipush 120, 2) := by decide +kernel
theorem d_X10_faultInto_21 : decode (zmc m_X10_faultInto) 21 = .ok (.if_icmp .gt 54, 3) := by decide +kernel
theorem d_X10_faultInto_24 : decode (zmc m_X10_faultInto) 24 = .ok (.iload_n 2, 1) := by decide +kernel
theorem d_X10_faultInto_25 : decode (zmc m_X10_faultInto) 25 = .ok (.ifCond .eq 50, 3) := by decide +kernel
theorem d_X10_faultInto_28 : decode (zmc m_X10_faultInto) 28 = .ok (.aload_n 0, 1) := by decide +kernel
theorem d_X10_faultInto_29 : decode (zmc m_X10_faultInto) 29 = .ok (.invokevirtual 31, 3) := by decide +kernel
theorem d_X10_faultInto_32 : decode (zmc m_X10_faultInto) 32 = .ok (.ifCond .ne 8, 3) := by decide +kernel
theorem d_X10_faultInto_35 : decode (zmc m_X10_faultInto) 35 = .ok (.aload_n 0, 1) := by decide +kernel
theorem d_X10_faultInto_36 : decode (zmc m_X10_faultInto) 36 = .ok (.getfield 28, 3) := by decide +kernel
theorem d_X10_faultInto_39 : decode (zmc m_X10_faultInto) 39 = .ok (.ireturn, 1) := by decide +kernel
theorem d_X10_faultInto_40 : decode (zmc m_X10_faultInto) 40 = .ok (.aload_n 0, 1) := by decide +kernel
theorem d_X10_faultInto_41 : decode (zmc m_X10_faultInto) 41 = .ok (.invokevirtual 35, 3) := by decide +kernel
theorem d_X10_faultInto_44 : decode (zmc m_X10_faultInto) 44 = .ok (.bipush 59, 2) := by decide +kernel
theorem d_X10_faultInto_46 : decode (zmc m_X10_faultInto) 46 = .ok (.if_icmp .ne 7, 3) := by decide +kernel
theorem d_X10_faultInto_49 : decode (zmc m_X10_faultInto) 49 = .ok (.iconst 1, 1) := by decide +kernel
theorem d_X10_faultInto_50 : decode (zmc m_X10_faultInto) 50 = .ok (.goto 4, 3) := by decide +kernel
theorem d_X10_faultInto_53 : decode (zmc m_X10_faultInto) 53 = .ok (.iconst 0, 1) := by decide +kernel
theorem d_X10_faultInto_54 : decode (zmc m_X10_faultInto) 54 = .ok (.istore_n 2, 1) := by decide +kernel
theorem d_X10_faultInto_55 : decode (zmc m_X10_faultInto) 55 = .ok (.iload_n 2, 1) := by decide +kernel
theorem d_X10_faultInto_56 : decode (zmc m_X10_faultInto) 56 = .ok (.ifCond .eq 13, 3) := by decide +kernel
theorem d_X10_faultInto_59 : decode (zmc m_X10_faultInto) 59 = .ok (.aload_n 0, 1) := by decide +kernel
theorem d_X10_faultInto_60 : decode (zmc m_X10_faultInto) 60 = .ok (.dup, 1) := by decide +kernel
theorem d_X10_faultInto_61 : decode (zmc m_X10_faultInto) 61 = .ok (.getfield 28, 3) := by decide +kernel
theorem d_X10_faultInto_64 : decode (zmc m_X10_faultInto) 64 = .ok (.iconst 1, 1) := by decide +kernel
theorem d_X10_faultInto_65 : decode (zmc m_X10_faultInto) 65 = .ok (.iadd, 1) := by decide +kernel
theorem d_X10_faultInto_66 : decode (zmc m_X10_faultInto) 66 = .ok (.putfield 28, 3) := by decide +kernel
theorem d_X10_faultInto_69 : decode (zmc m_X10_faultInto) 69 = .ok (.iinc 3 1, 3) := by decide +kernel
theorem d_X10_faultInto_72 : decode (zmc m_X10_faultInto) 72 = .ok (.goto (-54), 3) := by decide +kernel
theorem d_X10_faultInto_75 : decode (zmc m_X10_faultInto) 75 = .ok (.aload_n 0, 1) := by decide +kernel
theorem d_X10_faultInto_76 : decode (zmc m_X10_faultInto) 76 = .ok (.getfield 28, 3) := by decide +kernel
theorem d_X10_faultInto_79 : decode (zmc m_X10_faultInto) 79 = .ok (.aload_n 0, 1) := by decide +kernel
theorem d_X10_faultInto_80 : decode (zmc m_X10_faultInto) 80 = .ok (.getfield 15, 3) := by decide +kernel
theorem d_X10_faultInto_83 : decode (zmc m_X10_faultInto) 83 = .ok (.if_icmp .ne 7, 3) := by decide +kernel
theorem d_X10_faultInto_86 : decode (zmc m_X10_faultInto) 86 = .ok (.iconst (-1), 1) := by decide +kernel
theorem d_X10_faultInto_87 : decode (zmc m_X10_faultInto) 87 = .ok (.goto 7, 3) := by decide +kernel
theorem d_X10_faultInto_90 : decode (zmc m_X10_faultInto) 90 = .ok (.aload_n 0, 1) := by decide +kernel
theorem d_X10_faultInto_91 : decode (zmc m_X10_faultInto) 91 = .ok (.getfield 28, 3) := by decide +kernel
theorem d_X10_faultInto_94 : decode (zmc m_X10_faultInto) 94 = .ok (.ireturn, 1) := by decide +kernel
/-! WHERE A TEXT IS AT FAULT -/
def zTR (T : Nat → Int32) (m : Nat) : Nat × Option (List zLine) := zTx T m 121 0 []
def zFa (T : Nat → Int32) (m : Nat) : Int32 :=
  match (zTR T m).2 with
  | none => nI (zTR T m).1
  | some _ => if (zTR T m).1 = m then -1 else nI (zTR T m).1
def zFr (I J : Nat → Nat → Int32) (h : Nat) : Prop := (∀ a, a ≠ 29 → a ≠ h → a ≠ h + 1 → a ≠ h + 2 → J a = I a) ∧ (∀ k, k ≠ 2 → J 29 k = I 29 k) ∧ ∀ k, k ≠ 4 → J h k = I h k
theorem zFr_of {I J : Nat → Nat → Int32} {h p : Nat} {c : List zSt1} (k : zTp I J h p c) : zFr I J h := ⟨k.1, k.2.1, k.2.2.2.2.2⟩
theorem zTx_n {T : Nat → Int32} {m n p : Nat} {pg : List zLine} (e : (zLn T m p).2 = none) : zTx T m (n + 1) p pg = ((zLn T m p).1, none) := by unfold zTx; rw [e]
theorem zTx_s {T : Nat → Int32} {m n p : Nat} {pg : List zLine} {y : zLine} (e : (zLn T m p).2 = some y) (h : zAt T m (zLn T m p).1 = 59) : zTx T m (n + 1) p pg = zTx T m n ((zLn T m p).1 + 1) (pg ++ [y]) := by
  conv => lhs; unfold zTx
  rw [e]; exact if_pos h
theorem zTx_e {T : Nat → Int32} {m n p : Nat} {pg : List zLine} {y : zLine} (e : (zLn T m p).2 = some y) (h : ¬ zAt T m (zLn T m p).1 = 59) : zTx T m (n + 1) p pg = ((zLn T m p).1, some (pg ++ [y])) := by
  unfold zTx; rw [e]; exact if_neg h
theorem zCdL_pos {p : Nat} {y : zLine} : 0 < (zCdL p y).length := by
  obtain ⟨t, v⟩ := y
  cases t with
  | none => show 0 < (v ++ [(3, 0)]).length; rw [List.length_append]; show 0 < v.length + 1; omega
  | some t => show 0 < (t ++ (2, _) :: (v ++ [(3, 0)])).length; rw [List.length_append, List.length_cons]; omega
section S28
variable {g : zG} {l : Launch} {d : Nat} {I : Nat → Nat → Int32} {L : Nat → Nat → Int64} {a b h m : Nat} {x0 : Option Nat}
theorem sp_X10_faultInto (hd : 95 ≤ d) (h1 : I 29 1 = nI m) (hm : m ≤ 120) (hw : zLwf h) (hh : 54 ≤ h) :
    zSp g l d 100 m_X10_faultInto [.ref 29, .ref h] (zU I L (a, b, x0)) (zX (fun x w => ∃ J, w = zU J L (a, b, some h) ∧ x = zFa (I 30) m ∧ zFr I J h ∧ ∀ pg, zTR (I 30) m = (m, some pg) → zLawOk J h (some pg))) := by
  have done : ∀ (i : Int32) J (y : zLine) pg p1, zTp I J h p1 (zCd 0 (pg ++ [y])) → (zCd 0 (pg ++ [y])).length ≤ 128 → p1 ≤ m → (∀ x ∈ pg, zWfL x) → zWfL y → zTR (I 30) m = (p1, some (pg ++ [y])) → zA g l d m_X10_faultInto J L (a, b, some h) 18 [(3, .int i), (2, .int 0), (0, .ref 29), (1, .ref h)] (zX (fun x w => ∃ J, w = zU J L (a, b, some h) ∧ x = zFa (I 30) m ∧ zFr I J h ∧ ∀ pg, zTR (I 30) m = (m, some pg) → zLawOk J h (some pg))) := by
    intro i J y pg p1 hJ hc hp1 hpg hy hR
    have hm1 : J 29 1 = nI m := (hJ.2.1 1 (by decide)).trans h1
    have hfin : ∀ pg', zTR (I 30) m = (m, some pg') → zLawOk J h (some pg') := by
      intro pg' e
      rw [hR] at e
      cases e
      refine ⟨(zCd 0 (pg ++ [y])).length, hJ.2.2.2.1, ?_, hc, hJ.2.2.2.2.1, rfl, fun x hx => ?_⟩
      · rw [zCd_end, List.length_append]; have := zCdL_pos (p := 0 + (zCd 0 pg).length) (y := y); omega
      · rcases List.mem_append.mp hx with hx | hx
        · exact hpg x hx
        · rw [List.mem_singleton.mp hx]; exact hy
    refine zIloadN d_X10_faultInto_18 rfl rfl (q := 19) rfl ?_
    refine zBipush d_X10_faultInto_19 (v := 120) bc_120 (q := 21) rfl ?_
    refine zIcmp_gt d_X10_faultInto_21 (tgt := 75) (q := 24) (by decide) rfl (fun h21 => ?_) (fun h21 => ?_)
    · refine zAloadN d_X10_faultInto_75 rfl rfl (q := 76) rfl ?_
      refine zGetI d_X10_faultInto_76 ff_X10_28 sh_29 (by decide) (q := 79) rfl ?_
      refine zAloadN d_X10_faultInto_79 rfl rfl (q := 80) rfl ?_
      refine zGetI d_X10_faultInto_80 ff_X10_15 sh_29 (by decide) (q := 83) rfl ?_
      rw [hJ.2.2.1, hm1]
      refine zIcmp_ne d_X10_faultInto_83 (tgt := 90) (q := 86) (by decide) rfl (fun h83 => ?_) (fun h83 => ?_)
      · have hne : ¬ p1 = m := fun e => h83 (by rw [e])
        have e5 : zFa (I 30) m = nI p1 := by unfold zFa; rw [hR]; exact if_neg hne
        refine zAloadN d_X10_faultInto_90 rfl rfl (q := 91) rfl ?_
        refine zGetI d_X10_faultInto_91 ff_X10_28 sh_29 (by decide) (q := 94) rfl ?_
        refine zIret d_X10_faultInto_94 rfl rfl rfl ?_
        exact ⟨_, rfl, _, rfl, by first | exact e5.symm | exact hJ.2.2.1.trans e5.symm, zFr_of hJ, hfin⟩
      · have heq : p1 = m := Nat.le_antisymm hp1 (nle (a := p1) (b := m) (by rw [h83]; exact Int32.le_refl _))
        have e5 : zFa (I 30) m = -1 := by unfold zFa; rw [hR]; exact if_pos heq
        refine zIconst d_X10_faultInto_86 (v := -1) ic_m1 (q := 87) rfl ?_
        refine zGoto d_X10_faultInto_87 (q := 94) (by decide) ?_
        refine zIret d_X10_faultInto_94 rfl rfl rfl ?_
        exact ⟨_, rfl, _, rfl, by first | exact e5.symm | exact hJ.2.2.1.trans e5.symm, zFr_of hJ, hfin⟩
    · refine zIloadN d_X10_faultInto_24 rfl rfl (q := 25) rfl ?_
      refine zIf_eq d_X10_faultInto_25 (tgt := 75) (q := 28) (by decide) rfl (fun h25 => ?_) (fun h => absurd rfl h)
      refine zAloadN d_X10_faultInto_75 rfl rfl (q := 76) rfl ?_
      refine zGetI d_X10_faultInto_76 ff_X10_28 sh_29 (by decide) (q := 79) rfl ?_
      refine zAloadN d_X10_faultInto_79 rfl rfl (q := 80) rfl ?_
      refine zGetI d_X10_faultInto_80 ff_X10_15 sh_29 (by decide) (q := 83) rfl ?_
      rw [hJ.2.2.1, hm1]
      refine zIcmp_ne d_X10_faultInto_83 (tgt := 90) (q := 86) (by decide) rfl (fun h83 => ?_) (fun h83 => ?_)
      · have hne : ¬ p1 = m := fun e => h83 (by rw [e])
        have e5 : zFa (I 30) m = nI p1 := by unfold zFa; rw [hR]; exact if_neg hne
        refine zAloadN d_X10_faultInto_90 rfl rfl (q := 91) rfl ?_
        refine zGetI d_X10_faultInto_91 ff_X10_28 sh_29 (by decide) (q := 94) rfl ?_
        refine zIret d_X10_faultInto_94 rfl rfl rfl ?_
        exact ⟨_, rfl, _, rfl, by first | exact e5.symm | exact hJ.2.2.1.trans e5.symm, zFr_of hJ, hfin⟩
      · have heq : p1 = m := Nat.le_antisymm hp1 (nle (a := p1) (b := m) (by rw [h83]; exact Int32.le_refl _))
        have e5 : zFa (I 30) m = -1 := by unfold zFa; rw [hR]; exact if_pos heq
        refine zIconst d_X10_faultInto_86 (v := -1) ic_m1 (q := 87) rfl ?_
        refine zGoto d_X10_faultInto_87 (q := 94) (by decide) ?_
        refine zIret d_X10_faultInto_94 rfl rfl rfl ?_
        exact ⟨_, rfl, _, rfl, by first | exact e5.symm | exact hJ.2.2.1.trans e5.symm, zFr_of hJ, hfin⟩
  have loop : ∀ i, i ≤ 121 → ∀ J p pg, zTp I J h p (zCd 0 pg) → (zCd 0 pg).length ≤ p → p ≤ m → i ≤ p → (∀ x ∈ pg, zWfL x) → zTx (I 30) m (121 - i) p pg = zTR (I 30) m → zA g l d m_X10_faultInto J L (a, b, some h) 18 [(3, .int (nI i)), (2, .int 1), (0, .ref 29), (1, .ref h)] (zX (fun x w => ∃ J, w = zU J L (a, b, some h) ∧ x = zFa (I 30) m ∧ zFr I J h ∧ ∀ pg, zTR (I 30) m = (m, some pg) → zLawOk J h (some pg))) := by
    refine zloop 121 (fun i hi ih J p pg hJ hc hp hip hpg hR => ?_)
    have en : 121 - i = (121 - (i + 1)) + 1 := by omega
    rw [en] at hR
    obtain ⟨g1, g2, g3⟩ := zLn_gd (T := I 30) hp
    refine zIloadN d_X10_faultInto_18 rfl rfl (q := 19) rfl ?_
    refine zBipush d_X10_faultInto_19 (v := 120) bc_120 (q := 21) rfl ?_
    refine zIcmp_gt d_X10_faultInto_21 (tgt := 75) (q := 24) (by decide) rfl (fun h => absurd h (fun q => absurd ((nI_ltI (a := 120) (b := i) (by decide) (by omega)).mp q) (by omega))) (fun h21 => ?_)
    refine zIloadN d_X10_faultInto_24 rfl rfl (q := 25) rfl ?_
    refine zIf_eq d_X10_faultInto_25 (tgt := 75) (q := 28) (by decide) rfl (fun h => absurd h (by decide)) (fun h25 => ?_)
    refine zAloadN d_X10_faultInto_28 rfl rfl (q := 29) rfl ?_
    refine zCallVX d_X10_faultInto_29 ml_X10_31 k_X10_readLine ki_X10_readLine ks_X10_readLine (sp_X10_readLine (d := d - 1) (by omega) h1 hm hw hh hJ hc hp) rfl rfl sh_29 (by decide) rfl (by decide) (Nat.le_of_ble_eq_true rfl) (by decide) (by omega) zns100 (q := 32) rfl (fun x w' hw' => ?_)
    obtain ⟨J1, rfl, hr⟩ := hw'
    refine zIf_ne d_X10_faultInto_32 (tgt := 40) (q := 35) (by decide) rfl (fun h32 => ?_) (fun h32 => ?_)
    · obtain ⟨y, hf, hJ1⟩ := zLx_1 hr h32
      obtain ⟨g4, g5, g6⟩ := g3 y hf
      have g7 := g6 (zCd 0 pg).length
      have ec : zCd 0 (pg ++ [y]) = zCd 0 pg ++ zCdL (zCd 0 pg).length y := by rw [zCd_end, Nat.zero_add]
      have el : (zCd 0 (pg ++ [y])).length ≤ (zLn (I 30) m p).1 + 1 := by rw [ec, List.length_append]; omega
      rw [← ec] at hJ1
      refine zAloadN d_X10_faultInto_40 rfl rfl (q := 41) rfl ?_
      refine zCallVP d_X10_faultInto_41 ml_X10_35 k_X10_here ki_X10_here ks_X10_here (sp_hereT (d := d - 1) (h := h) (by omega) h1 hm hh hJ1 g1) rfl rfl sh_29 (by decide) rfl (by decide) (Nat.le_of_ble_eq_true rfl) (by decide) (by omega) zns100 (q := 44) rfl ?_
      refine zBipush d_X10_faultInto_44 (v := 59) bc_59 (q := 46) rfl ?_
      refine zIcmp_ne d_X10_faultInto_46 (tgt := 53) (q := 49) (by decide) rfl (fun h46 => ?_) (fun h46 => ?_)
      · rw [zTx_e hf h46] at hR
        have key := done (nI i + 1) J1 y pg _ hJ1 (by omega) g1 hpg g5 hR.symm
        rw [nI_1] at key
        refine zIconst d_X10_faultInto_53 (v := 0) ic_0 (q := 54) rfl ?_
        refine zIstoreN d_X10_faultInto_54 rfl (by decide) rfl (q := 55) rfl ?_
        refine zIloadN d_X10_faultInto_55 rfl rfl (q := 56) rfl ?_
        refine zIf_eq d_X10_faultInto_56 (tgt := 69) (q := 59) (by decide) rfl (fun _ => ?_) (fun h => absurd h (by decide))
        refine zIinc d_X10_faultInto_69 rfl (zinc _) (by decide) rfl (q := 72) rfl ?_
        refine zGoto d_X10_faultInto_72 (q := 18) (by decide) ?_
        refine zSub [0, 1, 2, 3] rfl ?_
        exact key
      · have e59 : zAt (I 30) m (zLn (I 30) m p).1 = 59 := h46
        have hlt : (zLn (I 30) m p).1 < m := zAt_in (by rw [e59]; decide)
        rw [zTx_s hf e59] at hR
        have key := ih (by omega) _ ((zLn (I 30) m p).1 + 1) (pg ++ [y]) (zTp_go (q := (zLn (I 30) m p).1 + 1) hh hJ1) el hlt (by omega) (fun x hx => by rcases List.mem_append.mp hx with hx | hx; exact hpg x hx; rw [List.mem_singleton.mp hx]; exact g5) hR
        refine zIconst d_X10_faultInto_49 (v := 1) ic_1 (q := 50) rfl ?_
        refine zGoto d_X10_faultInto_50 (q := 54) (by decide) ?_
        refine zIstoreN d_X10_faultInto_54 rfl (by decide) rfl (q := 55) rfl ?_
        refine zIloadN d_X10_faultInto_55 rfl rfl (q := 56) rfl ?_
        refine zIf_eq d_X10_faultInto_56 (tgt := 69) (q := 59) (by decide) rfl (fun h => absurd h (by decide)) (fun _ => ?_)
        refine zAloadN d_X10_faultInto_59 rfl rfl (q := 60) rfl ?_
        refine zDup d_X10_faultInto_60 rfl (q := 61) rfl ?_
        refine zGetI d_X10_faultInto_61 ff_X10_28 sh_29 (by decide) (q := 64) rfl ?_
        refine zIconst d_X10_faultInto_64 (v := 1) ic_1 (q := 65) rfl ?_
        refine zIadd d_X10_faultInto_65 (q := 66) rfl ?_
        rw [hJ1.2.2.1, nI_1]
        refine zPutI d_X10_faultInto_66 ff_X10_28 rfl rfl rfl sh_29 (by decide) (q := 69) rfl ?_
        refine zIinc d_X10_faultInto_69 rfl (zinc _) (by decide) rfl (q := 72) rfl ?_
        refine zGoto d_X10_faultInto_72 (q := 18) (by decide) ?_
        refine zSub [0, 1, 2, 3] rfl ?_
        exact key
    · obtain ⟨hf, c', hJ1⟩ := zLx_0 hr (by simpa using h32)
      rw [zTx_n hf] at hR
      have e5 : zFa (I 30) m = nI (zLn (I 30) m p).1 := by unfold zFa; rw [← hR]
      refine zAloadN d_X10_faultInto_35 rfl rfl (q := 36) rfl ?_
      refine zGetI d_X10_faultInto_36 ff_X10_28 sh_29 (by decide) (q := 39) rfl ?_
      refine zIret d_X10_faultInto_39 rfl rfl rfl ?_
      exact ⟨_, rfl, _, rfl, by first | exact hJ1.2.2.1.trans e5.symm | exact e5.symm, zFr_of hJ1, fun pg' e => by rw [← hR] at e; have e2 := congrArg Prod.snd e; cases e2⟩
  refine zSp_of (lv := [(0, .ref 29), (1, .ref h)]) k_X10_faultInto rfl (Nat.le_of_ble_eq_true rfl) ?_
  refine zAloadN d_X10_faultInto_0 rfl rfl (q := 1) rfl ?_
  refine zCallVV d_X10_faultInto_1 ml_X10_19 k_X6_clear ki_X6_clear ks_X6_clear (sp_X6_clear (d := d - 1) (by omega) hw) rfl rfl hw.1 (by decide) rfl (zlt4 hw) (Nat.le_of_ble_eq_true rfl) (by decide) (by omega) zns100 (q := 4) rfl (fun w' hw' => ?_)
  subst hw'
  refine zAloadN d_X10_faultInto_4 rfl rfl (q := 5) rfl ?_
  refine zAloadN d_X10_faultInto_5 rfl rfl (q := 6) rfl ?_
  refine zPutR (x := some h) d_X10_faultInto_6 ff_X10_24 rfl rfl (fun _ => rfl) (fun _ => rfl) rfl rfl sh_29 (by decide) (q := 9) rfl ?_
  refine zCastR zR_into ?_
  refine zAloadN d_X10_faultInto_9 rfl rfl (q := 10) rfl ?_
  refine zIconst d_X10_faultInto_10 (v := 0) ic_0 (q := 11) rfl ?_
  refine zPutI d_X10_faultInto_11 ff_X10_28 rfl rfl rfl sh_29 (by decide) (q := 14) rfl ?_
  refine zIconst d_X10_faultInto_14 (v := 1) ic_1 (q := 15) rfl ?_
  refine zIstoreN d_X10_faultInto_15 rfl (by decide) rfl (q := 16) rfl ?_
  refine zIconst d_X10_faultInto_16 (v := 0) ic_0 (q := 17) rfl ?_
  refine zIstoreN d_X10_faultInto_17 rfl (by decide) rfl (q := 18) rfl ?_
  refine zSub [0, 1, 2, 3] rfl ?_
  refine loop 0 (Nat.zero_le _) _ 0 [] ⟨fun a q1 q2 _ _ => by rw [zup_ne q1, zup_ne q2], fun k hk => by rw [zup_eq, zup_ne hk, zup_ne (by omega)], by rw [zup_eq, zup_eq]; rfl, by rw [zup_ne (by omega), zup_eq, zup_eq]; rfl, (fun i x hx => by cases hx), (fun k hk => by rw [zup_ne (by omega), zup_eq, zup_ne hk])⟩ (Nat.le_refl _) (Nat.zero_le _) (Nat.le_refl _) (fun x hx => by cases hx) rfl
end S28

