theorem d_X12_at_0 : decode (zmc m_X12_at) 0 = .ok (.aload_n 0, 1) := by decide +kernel
theorem d_X12_at_1 : decode (zmc m_X12_at) 1 = .ok (.getfield 113, 3) := by decide +kernel
theorem d_X12_at_4 : decode (zmc m_X12_at) 4 = .ok (.bipush 60, 2) := by decide +kernel
theorem d_X12_at_6 : decode (zmc m_X12_at) 6 = .ok (.iload_n 1, 1) := by decide +kernel
theorem d_X12_at_7 : decode (zmc m_X12_at) 7 = .ok (.imul, 1) := by decide +kernel
theorem d_X12_at_8 : decode (zmc m_X12_at) 8 = .ok (.iload_n 2, 1) := by decide +kernel
theorem d_X12_at_9 : decode (zmc m_X12_at) 9 = .ok (.iadd, 1) := by decide +kernel
theorem d_X12_at_10 : decode (zmc m_X12_at) 10 = .ok (.laload, 1) := by decide +kernel
theorem d_X12_at_11 : decode (zmc m_X12_at) 11 = .ok (.l2i, 1) := by decide +kernel
theorem d_X12_at_12 : decode (zmc m_X12_at) 12 = .ok (.ireturn, 1) := by decide +kernel
theorem d_X12_isShelf_0 : decode (zmc m_X12_isShelf) 0 = .ok (.iload_n 0, 1) := by decide +kernel
theorem d_X12_isShelf_1 : decode (zmc m_X12_isShelf) 1 = .ok (.iconst 0, 1) := by decide +kernel
theorem d_X12_isShelf_2 : decode (zmc m_X12_isShelf) 2 = .ok (.iconst 5, 1) := by decide +kernel
theorem d_X12_isShelf_3 : decode (zmc m_X12_isShelf) 3 = .ok (.invokestatic 127, 3) := by decide +kernel
theorem d_X12_isShelf_6 : decode (zmc m_X12_isShelf) 6 = .ok (.ireturn, 1) := by decide +kernel
theorem d_X12_keep_0 : decode (zmc m_X12_keep) 0 = .ok (.iload_n 1, 1) := by decide +kernel
theorem d_X12_keep_1 : decode (zmc m_X12_keep) 1 = .ok (.invokestatic 152, 3) := by decide +kernel
theorem d_X12_keep_4 : decode (zmc m_X12_keep) 4 = .ok (.ifCond .eq 16, 3) := by decide +kernel
theorem d_X12_keep_7 : decode (zmc m_X12_keep) 7 = .ok (.iload_n 2, 1) := by decide +kernel
theorem d_X12_keep_8 : decode (zmc m_X12_keep) 8 = .ok (.iconst (-1), 1) := by decide +kernel
theorem d_X12_keep_9 : decode (zmc m_X12_keep) 9 = .ok (.if_icmp .eq 13, 3) := by decide +kernel
theorem d_X12_keep_12 : decode (zmc m_X12_keep) 12 = .ok (.aload_n 0, 1) := by decide +kernel
theorem d_X12_keep_13 : decode (zmc m_X12_keep) 13 = .ok (.iload_n 2, 1) := by decide +kernel
theorem d_X12_keep_14 : decode (zmc m_X12_keep) 14 = .ok (.invokevirtual 418, 3) := by decide +kernel
theorem d_X12_keep_17 : decode (zmc m_X12_keep) 17 = .ok (.ifCond .ne 5, 3) := by decide +kernel
theorem d_X12_keep_20 : decode (zmc m_X12_keep) 20 = .ok (.iconst (-1), 1) := by decide +kernel
theorem d_X12_keep_21 : decode (zmc m_X12_keep) 21 = .ok (.ireturn, 1) := by decide +kernel
theorem d_X12_keep_22 : decode (zmc m_X12_keep) 22 = .ok (.aload_n 0, 1) := by decide +kernel
theorem d_X12_keep_23 : decode (zmc m_X12_keep) 23 = .ok (.getfield 107, 3) := by decide +kernel
theorem d_X12_keep_26 : decode (zmc m_X12_keep) 26 = .ok (.iload_n 1, 1) := by decide +kernel
theorem d_X12_keep_27 : decode (zmc m_X12_keep) 27 = .ok (.iload_n 2, 1) := by decide +kernel
theorem d_X12_keep_28 : decode (zmc m_X12_keep) 28 = .ok (.iastore, 1) := by decide +kernel
theorem d_X12_keep_29 : decode (zmc m_X12_keep) 29 = .ok (.iconst 1, 1) := by decide +kernel
theorem d_X12_keep_30 : decode (zmc m_X12_keep) 30 = .ok (.ireturn, 1) := by decide +kernel
theorem d_X12_row_0 : decode (zmc m_X12_row) 0 = .ok (.iload_n 1, 1) := by decide +kernel
theorem d_X12_row_1 : decode (zmc m_X12_row) 1 = .ok (.invokestatic 152, 3) := by decide +kernel
theorem d_X12_row_4 : decode (zmc m_X12_row) 4 = .ok (.ifCond .eq 18, 3) := by decide +kernel
theorem d_X12_row_7 : decode (zmc m_X12_row) 7 = .ok (.iload_n 2, 1) := by decide +kernel
theorem d_X12_row_8 : decode (zmc m_X12_row) 8 = .ok (.iconst 0, 1) := by decide +kernel
theorem d_X12_row_9 : decode (zmc m_X12_row) 9 = .ok (.iconst 4, 1) := by decide +kernel
theorem d_X12_row_10 : decode (zmc m_X12_row) 10 = .ok (.invokestatic 127, 3) := by decide +kernel
theorem d_X12_row_13 : decode (zmc m_X12_row) 13 = .ok (.ifCond .eq 9, 3) := by decide +kernel
theorem d_X12_row_16 : decode (zmc m_X12_row) 16 = .ok (.iload_n 3, 1) := by decide +kernel
theorem d_X12_row_17 : decode (zmc m_X12_row) 17 = .ok (.bipush 60, 2) := by decide +kernel
theorem d_X12_row_19 : decode (zmc m_X12_row) 19 = .ok (.if_icmp .le 5, 3) := by decide +kernel
theorem d_X12_row_22 : decode (zmc m_X12_row) 22 = .ok (.iconst (-1), 1) := by decide +kernel
theorem d_X12_row_23 : decode (zmc m_X12_row) 23 = .ok (.ireturn, 1) := by decide +kernel
theorem d_X12_row_24 : decode (zmc m_X12_row) 24 = .ok (.iload_n 3, 1) := by decide +kernel
theorem d_X12_row_25 : decode (zmc m_X12_row) 25 = .ok (.ifCond .ge 6, 3) := by decide +kernel
theorem d_X12_row_28 : decode (zmc m_X12_row) 28 = .ok (.bipush (-14), 2) := by decide +kernel
theorem d_X12_row_30 : decode (zmc m_X12_row) 30 = .ok (.ireturn, 1) := by decide +kernel
theorem d_X12_row_31 : decode (zmc m_X12_row) 31 = .ok (.aload_n 0, 1) := by decide +kernel
theorem d_X12_row_32 : decode (zmc m_X12_row) 32 = .ok (.getfield 107, 3) := by decide +kernel
theorem d_X12_row_35 : decode (zmc m_X12_row) 35 = .ok (.iload_n 1, 1) := by decide +kernel
theorem d_X12_row_36 : decode (zmc m_X12_row) 36 = .ok (.bipush (-2), 2) := by decide +kernel
theorem d_X12_row_38 : decode (zmc m_X12_row) 38 = .ok (.iload_n 2, 1) := by decide +kernel
theorem d_X12_row_39 : decode (zmc m_X12_row) 39 = .ok (.isub, 1) := by decide +kernel
theorem d_X12_row_40 : decode (zmc m_X12_row) 40 = .ok (.iastore, 1) := by decide +kernel
theorem d_X12_row_41 : decode (zmc m_X12_row) 41 = .ok (.aload_n 0, 1) := by decide +kernel
theorem d_X12_row_42 : decode (zmc m_X12_row) 42 = .ok (.getfield 110, 3) := by decide +kernel
theorem d_X12_row_45 : decode (zmc m_X12_row) 45 = .ok (.iload_n 1, 1) := by decide +kernel
theorem d_X12_row_46 : decode (zmc m_X12_row) 46 = .ok (.iload_n 3, 1) := by decide +kernel
theorem d_X12_row_47 : decode (zmc m_X12_row) 47 = .ok (.iastore, 1) := by decide +kernel
theorem d_X12_row_48 : decode (zmc m_X12_row) 48 = .ok (.bipush 60, 2) := by decide +kernel
theorem d_X12_row_50 : decode (zmc m_X12_row) 50 = .ok (.iload_n 1, 1) := by decide +kernel
theorem d_X12_row_51 : decode (zmc m_X12_row) 51 = .ok (.imul, 1) := by decide +kernel
theorem d_X12_row_52 : decode (zmc m_X12_row) 52 = .ok (.istore 4, 2) := by decide +kernel
theorem d_X12_row_54 : decode (zmc m_X12_row) 54 = .ok (.iload 4, 2) := by decide +kernel
theorem d_X12_row_56 : decode (zmc m_X12_row) 56 = .ok (.bipush 60, 2) := by decide +kernel
theorem d_X12_row_58 : decode (zmc m_X12_row) 58 = .ok (.iload_n 1, 1) := by decide +kernel
theorem d_X12_row_59 : decode (zmc m_X12_row) 59 = .ok (.imul, 1) := by decide +kernel
theorem d_X12_row_60 : decode (zmc m_X12_row) 60 = .ok (.bipush 60, 2) := by decide +kernel
theorem d_X12_row_62 : decode (zmc m_X12_row) 62 = .ok (.iadd, 1) := by decide +kernel
theorem d_X12_row_63 : decode (zmc m_X12_row) 63 = .ok (.if_icmp .ge 17, 3) := by decide +kernel
theorem d_X12_row_66 : decode (zmc m_X12_row) 66 = .ok (.aload_n 0, 1) := by decide +kernel
theorem d_X12_row_67 : decode (zmc m_X12_row) 67 = .ok (.getfield 113, 3) := by decide +kernel
theorem d_X12_row_70 : decode (zmc m_X12_row) 70 = .ok (.iload 4, 2) := by decide +kernel
theorem d_X12_row_72 : decode (zmc m_X12_row) 72 = .ok (.lconst 0, 1) := by decide +kernel
theorem d_X12_row_73 : decode (zmc m_X12_row) 73 = .ok (.lastore, 1) := by decide +kernel
theorem d_X12_row_74 : decode (zmc m_X12_row) 74 = .ok (.iinc 4 1, 3) := by decide +kernel
theorem d_X12_row_77 : decode (zmc m_X12_row) 77 = .ok (.goto (-23), 3) := by decide +kernel
theorem d_X12_row_80 : decode (zmc m_X12_row) 80 = .ok (.iconst 1, 1) := by decide +kernel
theorem d_X12_row_81 : decode (zmc m_X12_row) 81 = .ok (.ireturn, 1) := by decide +kernel
theorem d_X12_rowFault_0 : decode (zmc m_X12_rowFault) 0 = .ok (.aload_n 0, 1) := by decide +kernel
theorem d_X12_rowFault_1 : decode (zmc m_X12_rowFault) 1 = .ok (.getfield 107, 3) := by decide +kernel
theorem d_X12_rowFault_4 : decode (zmc m_X12_rowFault) 4 = .ok (.iload_n 1, 1) := by decide +kernel
theorem d_X12_rowFault_5 : decode (zmc m_X12_rowFault) 5 = .ok (.iaload, 1) := by decide +kernel
theorem d_X12_rowFault_6 : decode (zmc m_X12_rowFault) 6 = .ok (.iconst (-1), 1) := by decide +kernel
theorem d_X12_rowFault_7 : decode (zmc m_X12_rowFault) 7 = .ok (.if_icmp .ne 8, 3) := by decide +kernel
theorem d_X12_rowFault_10 : decode (zmc m_X12_rowFault) 10 = .ok (.bipush (-11), 2) := by decide +kernel
theorem d_X12_rowFault_12 : decode (zmc m_X12_rowFault) 12 = .ok (.goto 20, 3) := by decide +kernel
theorem d_X12_rowFault_15 : decode (zmc m_X12_rowFault) 15 = .ok (.aload_n 0, 1) := by decide +kernel
theorem d_X12_rowFault_16 : decode (zmc m_X12_rowFault) 16 = .ok (.getfield 107, 3) := by decide +kernel
theorem d_X12_rowFault_19 : decode (zmc m_X12_rowFault) 19 = .ok (.iload_n 1, 1) := by decide +kernel
theorem d_X12_rowFault_20 : decode (zmc m_X12_rowFault) 20 = .ok (.iaload, 1) := by decide +kernel
theorem d_X12_rowFault_21 : decode (zmc m_X12_rowFault) 21 = .ok (.bipush (-2), 2) := by decide +kernel
theorem d_X12_rowFault_23 : decode (zmc m_X12_rowFault) 23 = .ok (.if_icmp .ne 7, 3) := by decide +kernel
theorem d_X12_rowFault_26 : decode (zmc m_X12_rowFault) 26 = .ok (.iconst 0, 1) := by decide +kernel
theorem d_X12_rowFault_27 : decode (zmc m_X12_rowFault) 27 = .ok (.goto 5, 3) := by decide +kernel
theorem d_X12_rowFault_30 : decode (zmc m_X12_rowFault) 30 = .ok (.bipush (-12), 2) := by decide +kernel
theorem d_X12_rowFault_32 : decode (zmc m_X12_rowFault) 32 = .ok (.ireturn, 1) := by decide +kernel
/-! THE REFERENCE: shelves -/
theorem zsubT {m c : Nat} (hm : m < 2 ^ 31) (hc : c < 2 ^ 31) : (nI m - nI c).toInt = (m : Int) - c := by
  rw [Int32.toInt_sub, nI_toInt hm, nI_toInt hc]
  apply Int.bmod_eq_of_le <;> omega
theorem zRunIn_ref {i n : Int32} {m : Nat} (hm : m ≤ 60) : (0 ≤ n ∧ zRunIn i n (nI m)) ↔ (0 ≤ n ∧ 0 ≤ i ∧ i ≤ nI m - n) := by
  constructor
  · rintro ⟨h0, h1, h2, h3⟩
    obtain ⟨a, ha, rfl⟩ := zn0 (Int32.not_lt.mpr h1)
    obtain ⟨c, hc, rfl⟩ := zn0 (Int32.not_lt.mpr h0)
    refine ⟨h0, h1, ?_⟩
    rw [Int32.le_iff_toInt_le] at h2 h3 ⊢
    rw [zsubT (by omega) (by omega), nI_toInt (by omega)] at *
    rw [nI_toInt (by omega)] at h2
    omega
  · rintro ⟨h0, h1, h2⟩
    obtain ⟨a, ha, rfl⟩ := zn0 (Int32.not_lt.mpr h1)
    obtain ⟨c, hc, rfl⟩ := zn0 (Int32.not_lt.mpr h0)
    rw [Int32.le_iff_toInt_le, zsubT (by omega) (by omega), nI_toInt (by omega)] at h2
    refine ⟨h0, h1, ?_, ?_⟩
    · rw [Int32.le_iff_toInt_le, nI_toInt (by omega), nI_toInt (by omega)]; omega
    · rw [Int32.le_iff_toInt_le, zsubT (by omega) (by omega), nI_toInt (by omega)]; omega
/-- what a shelf may hold -/
def zShB (f : Nat → Int32) (nb : Nat) : Prop := (f 1 = -1 ∨ (∃ s, s < 5 ∧ f 1 = nI s) ∨ (f 1 = 5 ∧ ∃ q, q < nb ∧ f 3 = nI q)) ∧ ∃ m, m ≤ 60 ∧ f 2 = nI m
def zBh (V : Nat → Nat → Int32) (nb : Nat) : Prop := ∀ k, k < 6 → zShB (V (42 + 2 * k)) nb
theorem zHc_row : ∀ s, s < 5 → ¬ nI s = -1 ∧ ¬ nI s = 5 ∧ (0 ≤ nI s ∧ nI s ≤ 4) ∧ ¬ (-2 - nI s : Int32) = -1 ∧ (-2 - nI s : Int32) < 0 ∧ ((-2 - nI s : Int32) = -2 ↔ nI s = 0) ∧ (-2 : Int32) - (-2 - nI s) = nI s := by decide +kernel
theorem zHc_cases {f : Nat → Int32} {nb : Nat} (h50 : nb ≤ 50) (h : zShB f nb) : (f 1 = -1 ∧ zHc (f 1) (f 3) = -1) ∨ (∃ s, s < 5 ∧ f 1 = nI s ∧ zHc (f 1) (f 3) = -2 - nI s) ∨ (f 1 = 5 ∧ ∃ q, q < nb ∧ f 3 = nI q ∧ zHc (f 1) (f 3) = nI q) := by
  rcases h.1 with e | ⟨s, hs, e⟩ | ⟨e, q, hq, e3⟩
  · exact Or.inl ⟨e, by unfold zHc; rw [if_pos e]⟩
  · exact Or.inr (Or.inl ⟨s, hs, e, by unfold zHc; rw [e, if_neg (zHc_row s hs).1, if_neg (zHc_row s hs).2.1]⟩)
  · exact Or.inr (Or.inr ⟨e, q, hq, e3, by unfold zHc; rw [e, if_neg (by decide), if_pos rfl, e3]⟩)
theorem z605 (q : Nat) : (60 : Int32) * nI q = nI (60 * q) := by rw [← pk_mul]; rfl
theorem z60 (q i : Nat) : (60 : Int32) * nI q + nI i = nI (60 * q + i) := by rw [z605, nI_add]
section S48
variable {g : zG} {l : Launch} {d : Nat} {I V : Nat → Nat → Int32} {L K : Nat → Nat → Int64} {fs : Nat × Nat × Option Nat} {ns nt nh nb : Nat} {pg : Option (List zLine)}
theorem sp_X12_isShelf (hd : 2 ≤ d) {s : Int32} : zPure g l d m_X12_isShelf [.int s] I L fs (.int (bi (0 ≤ s ∧ s < 6))) := by
  refine zSp_of (lv := [(0, .int s)]) k_X12_isShelf rfl (Nat.le_of_ble_eq_true rfl) ?_
  refine zIloadN d_X12_isShelf_0 rfl rfl (q := 1) rfl ?_
  refine zIconst d_X12_isShelf_1 (v := 0) ic_0 (q := 2) rfl ?_
  refine zIconst d_X12_isShelf_2 (v := 5) ic_5 (q := 3) rfl ?_
  refine zCallSP d_X12_isShelf_3 ml_X12_127 k_X12_in kt_X12_in (sp_X12_in (d := d - 1) (by omega) ) rfl rfl (Nat.le_of_ble_eq_true rfl) (by decide) (by omega) zns100 (q := 6) rfl ?_
  refine zIret d_X12_isShelf_6 rfl (by first | exact zn_bi | rfl) rfl ?_
  exact zPi (bi_iff (by grind))
theorem zshelf_in {q : Nat} (hq : q < 6) : ¬ bi ((0 : Int32) ≤ nI q ∧ nI q < 6) = 0 := bi_n0.mpr ⟨zn_ge (by omega), (nI_ltI (b := 6) (by omega) (by omega)).mpr hq⟩
theorem zshelf_out {i : Int32} (hi : ¬ (0 ≤ i ∧ i < 6)) : bi ((0 : Int32) ≤ i ∧ i < 6) = 0 := bi_f hi
theorem sp_X12_rowFault (hd : 1 ≤ d) (hH : zMh I V L K) (hB : zBh V nb) (h50 : nb ≤ 50) {q : Nat} (hq : q < 6) : zPure g l d m_X12_rowFault [.ref 64, .int (nI q)] I L fs (.int (if V (42 + 2 * q) 1 = -1 then -11 else if V (42 + 2 * q) 1 = 0 then 0 else -12)) := by
  have e96 := (hH q hq).2.1
  refine zSp_of (lv := [(0, .ref 64), (1, .int (nI q))]) k_X12_rowFault rfl (Nat.le_of_ble_eq_true rfl) ?_
  refine zAloadN d_X12_rowFault_0 rfl rfl (q := 1) rfl ?_
  refine zGetR d_X12_rowFault_1 ff_X12_107 sh_64 (by decide) r_64_53 (q := 4) rfl ?_
  refine zIloadN d_X12_rowFault_4 rfl rfl (q := 5) rfl ?_
  refine zIald d_X12_rowFault_5 sh_96 (by decide) rfl hq (q := 6) rfl ?_
  rw [e96]
  refine zIconst d_X12_rowFault_6 (v := -1) ic_m1 (q := 7) rfl ?_
  refine zIcmp_ne d_X12_rowFault_7 (tgt := 15) (q := 10) (by decide) rfl (fun h7 => ?_) (fun h7 => ?_)
  · refine zAloadN d_X12_rowFault_15 rfl rfl (q := 16) rfl ?_
    refine zGetR d_X12_rowFault_16 ff_X12_107 sh_64 (by decide) r_64_53 (q := 19) rfl ?_
    refine zIloadN d_X12_rowFault_19 rfl rfl (q := 20) rfl ?_
    refine zIald d_X12_rowFault_20 sh_96 (by decide) rfl hq (q := 21) rfl ?_
    rw [e96]
    refine zBipush d_X12_rowFault_21 (v := -2) bc_m2 (q := 23) rfl ?_
    refine zIcmp_ne d_X12_rowFault_23 (tgt := 30) (q := 26) (by decide) rfl (fun h23 => ?_) (fun h23 => ?_)
    · refine zBipush d_X12_rowFault_30 (v := -12) bc_m12 (q := 32) rfl ?_
      refine zIret d_X12_rowFault_32 rfl rfl rfl ?_
      rcases zHc_cases h50 (hB q hq) with ⟨e, e2⟩ | ⟨s, hs, e, e2⟩ | ⟨e, p, hp, e3, e2⟩
      · rw [e2] at h7; first | exact absurd rfl h7 | (rw [if_pos e]; exact zPi rfl)
      · have z := zHc_row s hs
        rw [e2] at h7
        first
        | exact absurd h7 z.2.2.2.1
        | (rw [e2] at h23; rw [if_neg (by rw [e]; exact z.1), if_pos (by rw [e]; exact z.2.2.2.2.2.1.mp h23)]; exact zPi rfl)
        | (rw [e2] at h23; rw [if_neg (by rw [e]; exact z.1), if_neg (by rw [e]; exact fun y => h23 (z.2.2.2.2.2.1.mpr y))]; exact zPi rfl)
      · have p0 := zn_ge (k := p) (by omega)
        rw [e2] at h7
        first
        | (exfalso; rw [h7] at p0; exact absurd p0 (by decide))
        | (exfalso; rw [e2] at h23; rw [h23] at p0; exact absurd p0 (by decide))
        | (rw [if_neg (by rw [e]; decide), if_neg (by rw [e]; decide)]; exact zPi rfl)
    · refine zIconst d_X12_rowFault_26 (v := 0) ic_0 (q := 27) rfl ?_
      refine zGoto d_X12_rowFault_27 (q := 32) (by decide) ?_
      refine zIret d_X12_rowFault_32 rfl rfl rfl ?_
      rcases zHc_cases h50 (hB q hq) with ⟨e, e2⟩ | ⟨s, hs, e, e2⟩ | ⟨e, p, hp, e3, e2⟩
      · rw [e2] at h7; first | exact absurd rfl h7 | (rw [if_pos e]; exact zPi rfl)
      · have z := zHc_row s hs
        rw [e2] at h7
        first
        | exact absurd h7 z.2.2.2.1
        | (rw [e2] at h23; rw [if_neg (by rw [e]; exact z.1), if_pos (by rw [e]; exact z.2.2.2.2.2.1.mp h23)]; exact zPi rfl)
        | (rw [e2] at h23; rw [if_neg (by rw [e]; exact z.1), if_neg (by rw [e]; exact fun y => h23 (z.2.2.2.2.2.1.mpr y))]; exact zPi rfl)
      · have p0 := zn_ge (k := p) (by omega)
        rw [e2] at h7
        first
        | (exfalso; rw [h7] at p0; exact absurd p0 (by decide))
        | (exfalso; rw [e2] at h23; rw [h23] at p0; exact absurd p0 (by decide))
        | (rw [if_neg (by rw [e]; decide), if_neg (by rw [e]; decide)]; exact zPi rfl)
  · refine zBipush d_X12_rowFault_10 (v := -11) bc_m11 (q := 12) rfl ?_
    refine zGoto d_X12_rowFault_12 (q := 32) (by decide) ?_
    refine zIret d_X12_rowFault_32 rfl rfl rfl ?_
    rcases zHc_cases h50 (hB q hq) with ⟨e, e2⟩ | ⟨s, hs, e, e2⟩ | ⟨e, p, hp, e3, e2⟩
    · rw [e2] at h7; first | exact absurd rfl h7 | (rw [if_pos e]; exact zPi rfl)
    · have z := zHc_row s hs
      rw [e2] at h7
      first
      | exact absurd h7 z.2.2.2.1
      | (rw [e2] at h23; rw [if_neg (by rw [e]; exact z.1), if_pos (by rw [e]; exact z.2.2.2.2.2.1.mp h23)]; exact zPi rfl)
      | (rw [e2] at h23; rw [if_neg (by rw [e]; exact z.1), if_neg (by rw [e]; exact fun y => h23 (z.2.2.2.2.2.1.mpr y))]; exact zPi rfl)
    · have p0 := zn_ge (k := p) (by omega)
      rw [e2] at h7
      first
      | (exfalso; rw [h7] at p0; exact absurd p0 (by decide))
      | (exfalso; rw [e2] at h23; rw [h23] at p0; exact absurd p0 (by decide))
      | (rw [if_neg (by rw [e]; decide), if_neg (by rw [e]; decide)]; exact zPi rfl)
theorem sp_X12_at (hd : 1 ≤ d) (hH : zMh I V L K) {q i : Nat} (hq : q < 6) (hi : i < 60) : zPure g l d m_X12_at [.ref 64, .int (nI q), .int (nI i)] I L fs (.int (K (43 + 2 * q) i).toInt32) := by
  have e := (hH q hq).2.2 i hi
  refine zSp_of (lv := [(0, .ref 64), (1, .int (nI q)), (2, .int (nI i))]) k_X12_at rfl (Nat.le_of_ble_eq_true rfl) ?_
  refine zAloadN d_X12_at_0 rfl rfl (q := 1) rfl ?_
  refine zGetR d_X12_at_1 ff_X12_113 sh_64 (by decide) r_64_55 (q := 4) rfl ?_
  refine zBipush d_X12_at_4 (v := 60) bc_60 (q := 6) rfl ?_
  refine zIloadN d_X12_at_6 rfl rfl (q := 7) rfl ?_
  refine zImul d_X12_at_7 (q := 8) rfl ?_
  refine zIloadN d_X12_at_8 rfl rfl (q := 9) rfl ?_
  refine zIadd d_X12_at_9 (q := 10) rfl ?_
  refine zLald d_X12_at_10 sh_98 (by decide) (z60 q i) (by omega) (q := 11) rfl ?_
  refine zL2i d_X12_at_11 (q := 12) rfl ?_
  refine zIret d_X12_at_12 rfl rfl rfl ?_
  exact zPi (by rw [e])
theorem zTold_at {V : Nat → Nat → Int32} {K : Nat → Nat → Int64} {q i m : Nat} (hm : V (42 + 2 * q) 2 = nI m) (h60 : m ≤ 60) (hi : i < m) : zTold V K (42 + 2 * q) (nI i) = (K (43 + 2 * q) i).toInt32 := by
  unfold zTold
  rw [hm, if_pos ⟨zn_ge (by omega), (nI_ltI (by omega) (by omega)).mpr hi⟩, zcl_n (by omega), show 42 + 2 * q + 1 = 43 + 2 * q by omega]
theorem zTold_out {V : Nat → Nat → Int32} {K : Nat → Nat → Int64} {r i m : Nat} (hm : V r 2 = nI m) (h60 : m ≤ 60) (hi : m ≤ i) (hi2 : i < 2 ^ 31) : zTold V K r (nI i) = -1 := by
  unfold zTold
  rw [hm, if_neg (fun z => by have := (nI_ltI (a := i) (b := m) (by omega) (by omega)).mp z.2; omega)]
theorem sp_X12_keep0 {i b : Int32} (hd : 3 ≤ d) (hi : ¬ (0 ≤ i ∧ i < 6)) : zPure g l d m_X12_keep [.ref 64, .int i, .int b] I L fs (.int (-1)) := by
  refine zSp_of (lv := [(0, .ref 64), (1, .int i), (2, .int b)]) k_X12_keep rfl (Nat.le_of_ble_eq_true rfl) ?_
  refine zIloadN d_X12_keep_0 rfl rfl (q := 1) rfl ?_
  refine zCallSP d_X12_keep_1 ml_X12_152 k_X12_isShelf kt_X12_isShelf (sp_X12_isShelf (d := d - 1) (by omega) ) rfl rfl (Nat.le_of_ble_eq_true rfl) (by decide) (by omega) zns100 (q := 4) rfl ?_
  refine zIf_eq d_X12_keep_4 (tgt := 20) (q := 7) (by decide) rfl (fun h4 => ?_) (fun h => absurd (zshelf_out hi) h)
  refine zIconst d_X12_keep_20 (v := -1) ic_m1 (q := 21) rfl ?_
  refine zIret d_X12_keep_21 rfl rfl rfl ?_
  exact zPi rfl
theorem zMh_at {J : Nat → Nat → Int32} {V' : Nat → Nat → Int32} {L' K' : Nat → Nat → Int64} {q : Nat} (hq : q < 6) (hM : zMh I V L K) (j97 : ∀ k, k ≠ q → J 97 k = I 97 k) (j96 : ∀ k, k ≠ q → J 96 k = I 96 k) (jL : ∀ k i, k ≠ q → i < 60 → L' 98 (60 * k + i) = L 98 (60 * k + i)) (v : ∀ a, a ≠ 42 + 2 * q → V' a = V a) (kk : ∀ a, a ≠ 43 + 2 * q → K' a = K a)
    (h1 : J 97 q = V' (42 + 2 * q) 2) (h2 : J 96 q = zHc (V' (42 + 2 * q) 1) (V' (42 + 2 * q) 3)) (h3 : ∀ i, i < 60 → L' 98 (60 * q + i) = K' (43 + 2 * q) i) : zMh J V' L' K' := by
  intro k hk
  by_cases e : k = q
  · subst e; exact ⟨h1, h2, h3⟩
  · rw [j97 k e, j96 k e, v (42 + 2 * k) (by omega), kk (43 + 2 * k) (by omega)]
    obtain ⟨a, b, c⟩ := hM k hk
    exact ⟨a, b, fun i hi => (jL k i e hi).trans (c i hi)⟩
theorem sp_X12_keep {q : Nat} {b : Int32} (hd : 3 ≤ d) (hD : zMd I L V K pg) (hb : V 38 2 = nI nb) (h50 : nb ≤ 50) (hq : q < 6) : zSp g l d 100 m_X12_keep [.ref 64, .int (nI q), .int b] (zU I L fs) (zX (fun x w => (¬ (-1 ≤ b ∧ b < V 38 2) ∧ x = -1 ∧ w = zU I L fs) ∨ ((-1 ≤ b ∧ b < V 38 2) ∧ x = 1 ∧ ∃ J, w = zU J L fs ∧ zFrm I J ∧ zMd J L (zup V (42 + 2 * q) (if b = -1 then zup (V (42 + 2 * q)) 1 (-1) else zup (zup (V (42 + 2 * q)) 1 5) 3 b)) K pg))) := by
  have hA := hD.2.2.2.2.1
  have hH := hD.2.2.2.2.2.1
  have hbn : b = -1 → (-1 ≤ b ∧ b < V 38 2) := fun e => by rw [e, hb]; exact ⟨by decide, by have := zn_ge (k := nb) (by omega); grind⟩
  have hb2 : (0 ≤ b ∧ b < nI nb) → (-1 ≤ b ∧ b < V 38 2) := fun e => by rw [hb]; exact ⟨by have := e.1; grind, e.2⟩
  refine zSp_of (lv := [(0, .ref 64), (1, .int (nI q)), (2, .int b)]) k_X12_keep rfl (Nat.le_of_ble_eq_true rfl) ?_
  refine zIloadN d_X12_keep_0 rfl rfl (q := 1) rfl ?_
  refine zCallSP d_X12_keep_1 ml_X12_152 k_X12_isShelf kt_X12_isShelf (sp_X12_isShelf (d := d - 1) (by omega) ) rfl rfl (Nat.le_of_ble_eq_true rfl) (by decide) (by omega) zns100 (q := 4) rfl ?_
  refine zIf_eq d_X12_keep_4 (tgt := 20) (q := 7) (by decide) rfl (fun h => absurd h (zshelf_in hq)) (fun h4 => ?_)
  refine zIloadN d_X12_keep_7 rfl rfl (q := 8) rfl ?_
  refine zIconst d_X12_keep_8 (v := -1) ic_m1 (q := 9) rfl ?_
  refine zIcmp_eq d_X12_keep_9 (tgt := 22) (q := 12) (by decide) rfl (fun h9 => ?_) (fun h9 => ?_)
  · have c := hbn h9
    refine zAloadN d_X12_keep_22 rfl rfl (q := 23) rfl ?_
    refine zGetR d_X12_keep_23 ff_X12_107 sh_64 (by decide) r_64_53 (q := 26) rfl ?_
    refine zIloadN d_X12_keep_26 rfl rfl (q := 27) rfl ?_
    refine zIloadN d_X12_keep_27 rfl rfl (q := 28) rfl ?_
    refine zIast d_X12_keep_28 sh_96 (by decide) rfl hq (q := 29) rfl ?_
    refine zIconst d_X12_keep_29 (v := 1) ic_1 (q := 30) rfl ?_
    refine zIret d_X12_keep_30 rfl rfl rfl ?_
    refine ⟨_, rfl, Or.inr ⟨c, rfl, _, rfl, zFrm_up zFrm_refl (by decide), ?_⟩⟩
    refine zMd_h (I := I) (V := V) (L := L) (K := K) (fun a h1 h2 => zup_ne h1) (fun a ha => zup_ne (by omega)) ?_ hD
    refine zMh_at hq hH (fun k hk => rfl) (fun k hk => by rw [zup_eq, zup_ne hk]) (fun _ _ _ _ => rfl) (fun a ha => zup_ne ha) (fun _ _ => rfl) ?_ ?_ (hH q hq).2.2
    · show I 97 q = _; rw [(hH q hq).1, zup_eq]; split <;> rfl
    · rw [zup_eq, zup_eq, zup_eq]
      by_cases e : b = -1
      · rw [if_pos e, e]; rfl
      · rw [if_neg e]; rfl
  · refine zAloadN d_X12_keep_12 rfl rfl (q := 13) rfl ?_
    refine zIloadN d_X12_keep_13 rfl rfl (q := 14) rfl ?_
    refine zCallVP d_X12_keep_14 ml_X12_418 k_X12_isBody ki_X12_isBody ks_X12_isBody (sp_X12_isBody (d := d - 1) (by omega) hA hb h50) rfl rfl sh_64 (by decide) rfl (by decide) (Nat.le_of_ble_eq_true rfl) (by decide) (by omega) zns100 (q := 17) rfl ?_
    refine zIf_ne d_X12_keep_17 (tgt := 22) (q := 20) (by decide) rfl (fun h17 => ?_) (fun h17 => ?_)
    · have c := hb2 (bi_n0.mp h17)
      refine zAloadN d_X12_keep_22 rfl rfl (q := 23) rfl ?_
      refine zGetR d_X12_keep_23 ff_X12_107 sh_64 (by decide) r_64_53 (q := 26) rfl ?_
      refine zIloadN d_X12_keep_26 rfl rfl (q := 27) rfl ?_
      refine zIloadN d_X12_keep_27 rfl rfl (q := 28) rfl ?_
      refine zIast d_X12_keep_28 sh_96 (by decide) rfl hq (q := 29) rfl ?_
      refine zIconst d_X12_keep_29 (v := 1) ic_1 (q := 30) rfl ?_
      refine zIret d_X12_keep_30 rfl rfl rfl ?_
      refine ⟨_, rfl, Or.inr ⟨c, rfl, _, rfl, zFrm_up zFrm_refl (by decide), ?_⟩⟩
      refine zMd_h (I := I) (V := V) (L := L) (K := K) (fun a h1 h2 => zup_ne h1) (fun a ha => zup_ne (by omega)) ?_ hD
      refine zMh_at hq hH (fun k hk => rfl) (fun k hk => by rw [zup_eq, zup_ne hk]) (fun _ _ _ _ => rfl) (fun a ha => zup_ne ha) (fun _ _ => rfl) ?_ ?_ (hH q hq).2.2
      · show I 97 q = _; rw [(hH q hq).1, zup_eq]; split <;> rfl
      · rw [zup_eq, zup_eq, zup_eq]
        by_cases e : b = -1
        · rw [if_pos e, e]; rfl
        · rw [if_neg e]; rfl
    · have c := bi_0.mp h17
      refine zIconst d_X12_keep_20 (v := -1) ic_m1 (q := 21) rfl ?_
      refine zIret d_X12_keep_21 rfl rfl rfl ?_
      exact ⟨_, rfl, Or.inl ⟨fun z => c ⟨by have := z.1; grind, hb ▸ z.2⟩, rfl, rfl⟩⟩
/-- from a to k nothing -/
def zZr (f : Nat → Int64) (a k : Nat) : Nat → Int64 := fun i => if a ≤ i ∧ i < k then 0 else f i
theorem zZr_step {f : Nat → Int64} {a k : Nat} (h : a ≤ k) : zup (zZr f a k) k 0 = zZr f a (k + 1) := by
  funext i
  unfold zup zZr
  by_cases e : i = k
  · subst e; rw [if_pos rfl, if_pos (by omega)]
  · rw [if_neg e]
    by_cases c : a ≤ i ∧ i < k
    · rw [if_pos c, if_pos (by omega)]
    · rw [if_neg c, if_neg (by omega)]
theorem sp_X12_row0 {i b n : Int32} (hd : 3 ≤ d) (hi : ¬ (0 ≤ i ∧ i < 6)) : zPure g l d m_X12_row [.ref 64, .int i, .int b, .int n] I L fs (.int (-1)) := by
  refine zSp_of (lv := [(0, .ref 64), (1, .int i), (2, .int b), (3, .int n)]) k_X12_row rfl (Nat.le_of_ble_eq_true rfl) ?_
  refine zIloadN d_X12_row_0 rfl rfl (q := 1) rfl ?_
  refine zCallSP d_X12_row_1 ml_X12_152 k_X12_isShelf kt_X12_isShelf (sp_X12_isShelf (d := d - 1) (by omega) ) rfl rfl (Nat.le_of_ble_eq_true rfl) (by decide) (by omega) zns100 (q := 4) rfl ?_
  refine zIf_eq d_X12_row_4 (tgt := 22) (q := 7) (by decide) rfl (fun h4 => ?_) (fun h => absurd (zshelf_out hi) h)
  refine zIconst d_X12_row_22 (v := -1) ic_m1 (q := 23) rfl ?_
  refine zIret d_X12_row_23 rfl rfl rfl ?_
  exact zPi rfl
theorem sp_X12_row {q : Nat} {b n : Int32} (hd : 3 ≤ d) (hD : zMd I L V K pg) (hq : q < 6) : zSp g l d 100 m_X12_row [.ref 64, .int (nI q), .int b, .int n] (zU I L fs) (zX (fun x w => (¬ (0 ≤ b ∧ b ≤ 4 ∧ n ≤ 60) ∧ x = -1 ∧ w = zU I L fs) ∨ ((0 ≤ b ∧ b ≤ 4 ∧ n ≤ 60) ∧ n < 0 ∧ x = -14 ∧ w = zU I L fs) ∨ ((0 ≤ b ∧ b ≤ 4 ∧ n ≤ 60) ∧ 0 ≤ n ∧ x = 1 ∧ ∃ J L', w = zU J L' fs ∧ zFrm I J ∧ (∀ a, a < 64 → L' a = L a) ∧ zMd J L' (zHoldI V (42 + 2 * q) b n) (zup K (43 + 2 * q) (zZero (K (43 + 2 * q)) 0)) pg))) := by
  have hH := hD.2.2.2.2.2.1
  have fin : (0 ≤ b ∧ b ≤ 4 ∧ n ≤ 60) → ∀ J, J = zup (zup I 96 (zup (I 96) q (-2 - b))) 97 (zup (I 97) q n) → zMd J (zup L 98 (zZr (L 98) (60 * q) (60 * q + 60))) (zHoldI V (42 + 2 * q) b n) (zup K (43 + 2 * q) (zZero (K (43 + 2 * q)) 0)) pg := by
    rintro hc J rfl
    refine zMd_h (I := I) (V := V) (L := L) (K := K) (fun a h1 h2 => by rw [zup_ne h2, zup_ne h1]) (fun a ha => zup_ne (by omega)) ?_ hD
    refine zMh_at hq hH (fun k hk => by rw [zup_eq, zup_ne hk]) (fun k hk => by rw [zup_ne (f := zup I 96 _) (show (96 : Nat) ≠ 97 by decide), zup_eq, zup_ne hk]) (fun k i hk hi => ?_) (fun a ha => zup_ne ha) (fun a ha => zup_ne ha) ?_ ?_ (fun i hi => ?_)
    · rw [zup_eq]; exact if_neg (by omega)
    · unfold zHoldI; rw [zup_eq, zup_eq, zup_eq, zup_eq]
    · unfold zHoldI
      rw [zup_ne (f := zup I 96 _) (show (96 : Nat) ≠ 97 by decide), zup_eq, zup_eq, zup_eq]
      show -2 - b = zHc b _
      unfold zHc
      rw [if_neg (by have := hc.1; grind), if_neg (by have := hc.2.1; grind)]
    · rw [zup_eq, zup_eq, zZero_at, if_pos hi]; exact if_pos (by omega)
  have loop : ∀ J, (0 ≤ b ∧ b ≤ 4 ∧ n ≤ 60) → 0 ≤ n → J = zup (zup I 96 (zup (I 96) q (-2 - b))) 97 (zup (I 97) q n) → ∀ k, k ≤ 60 * q + 60 → 60 * q ≤ k → zA g l d m_X12_row J (zup L 98 (zZr (L 98) (60 * q) k)) fs 54 [(4, .int (nI k)), (0, .ref 64), (1, .int (nI q)), (2, .int b), (3, .int n)] (zX (fun x w => (¬ (0 ≤ b ∧ b ≤ 4 ∧ n ≤ 60) ∧ x = -1 ∧ w = zU I L fs) ∨ ((0 ≤ b ∧ b ≤ 4 ∧ n ≤ 60) ∧ n < 0 ∧ x = -14 ∧ w = zU I L fs) ∨ ((0 ≤ b ∧ b ≤ 4 ∧ n ≤ 60) ∧ 0 ≤ n ∧ x = 1 ∧ ∃ J L', w = zU J L' fs ∧ zFrm I J ∧ (∀ a, a < 64 → L' a = L a) ∧ zMd J L' (zHoldI V (42 + 2 * q) b n) (zup K (43 + 2 * q) (zZero (K (43 + 2 * q)) 0)) pg))) := by
    intro J hc hn0 hJ
    refine zloop (60 * q + 60) (fun k hk ih h1 => ?_)
    have e60 : (60 : Int32) * nI q + 60 = nI (60 * q + 60) := z60 q 60
    refine zIload d_X12_row_54 rfl (q := 56) rfl ?_
    refine zBipush d_X12_row_56 (v := 60) bc_60 (q := 58) rfl ?_
    refine zIloadN d_X12_row_58 rfl rfl (q := 59) rfl ?_
    refine zImul d_X12_row_59 (q := 60) rfl ?_
    refine zBipush d_X12_row_60 (v := 60) bc_60 (q := 62) rfl ?_
    refine zIadd d_X12_row_62 (q := 63) rfl ?_
    rw [e60]
    refine zIcmp_ge d_X12_row_63 (tgt := 80) (q := 66) (by decide) rfl (fun h63 => ?_) (fun h63 => ?_)
    · have e : k = 60 * q + 60 := by have := nle h63; omega
      refine zIconst d_X12_row_80 (v := 1) ic_1 (q := 81) rfl ?_
      refine zIret d_X12_row_81 rfl rfl rfl ?_
      rw [e]
      exact ⟨_, rfl, Or.inr (Or.inr ⟨hc, hn0, rfl, J, _, rfl, (by rw [hJ]; exact zFrm_up (zFrm_up zFrm_refl (by decide)) (by decide)), (fun a ha => zup_ne (by omega)), fin hc J hJ⟩)⟩
    · have hlt := nnle h63
      refine zAloadN d_X12_row_66 rfl rfl (q := 67) rfl ?_
      refine zGetR d_X12_row_67 ff_X12_113 sh_64 (by decide) r_64_55 (q := 70) rfl ?_
      refine zIload d_X12_row_70 rfl (q := 72) rfl ?_
      refine zLconst d_X12_row_72 (v := 0) rfl (q := 73) rfl ?_
      refine zLast d_X12_row_73 sh_98 (by decide) rfl (by omega) (q := 74) rfl ?_
      rw [zup_zup, zup_eq, zZr_step h1]
      refine zIinc d_X12_row_74 rfl (zinc _) (by decide) rfl (q := 77) rfl ?_
      refine zGoto d_X12_row_77 (q := 54) (by decide) ?_
      refine zSub [0, 1, 2, 3, 4] rfl ?_
      exact ih hlt (by omega)
  have eL : zup L 98 (zZr (L 98) (60 * q) (60 * q)) = L := by
    rw [show zZr (L 98) (60 * q) (60 * q) = L 98 from funext fun i => if_neg (by omega), zup_self]
  refine zSp_of (lv := [(0, .ref 64), (1, .int (nI q)), (2, .int b), (3, .int n)]) k_X12_row rfl (Nat.le_of_ble_eq_true rfl) ?_
  refine zIloadN d_X12_row_0 rfl rfl (q := 1) rfl ?_
  refine zCallSP d_X12_row_1 ml_X12_152 k_X12_isShelf kt_X12_isShelf (sp_X12_isShelf (d := d - 1) (by omega) ) rfl rfl (Nat.le_of_ble_eq_true rfl) (by decide) (by omega) zns100 (q := 4) rfl ?_
  refine zIf_eq d_X12_row_4 (tgt := 22) (q := 7) (by decide) rfl (fun h => absurd h (zshelf_in hq)) (fun h4 => ?_)
  refine zIloadN d_X12_row_7 rfl rfl (q := 8) rfl ?_
  refine zIconst d_X12_row_8 (v := 0) ic_0 (q := 9) rfl ?_
  refine zIconst d_X12_row_9 (v := 4) ic_4 (q := 10) rfl ?_
  refine zCallSP d_X12_row_10 ml_X12_127 k_X12_in kt_X12_in (sp_X12_in (d := d - 1) (by omega) ) rfl rfl (Nat.le_of_ble_eq_true rfl) (by decide) (by omega) zns100 (q := 13) rfl ?_
  refine zIf_eq d_X12_row_13 (tgt := 22) (q := 16) (by decide) rfl (fun h13 => ?_) (fun h13 => ?_)
  · have hno : ¬ (0 ≤ b ∧ b ≤ 4 ∧ n ≤ 60) := fun z => bi_0.mp h13 ⟨z.1, z.2.1⟩
    refine zIconst d_X12_row_22 (v := -1) ic_m1 (q := 23) rfl ?_
    refine zIret d_X12_row_23 rfl rfl rfl ?_
    exact ⟨_, rfl, Or.inl ⟨hno, rfl, rfl⟩⟩
  · refine zIloadN d_X12_row_16 rfl rfl (q := 17) rfl ?_
    refine zBipush d_X12_row_17 (v := 60) bc_60 (q := 19) rfl ?_
    refine zIcmp_le d_X12_row_19 (tgt := 24) (q := 22) (by decide) rfl (fun h19 => ?_) (fun h19 => ?_)
    · have hc : 0 ≤ b ∧ b ≤ 4 ∧ n ≤ 60 := And.intro (bi_n0.mp h13).1 (And.intro (bi_n0.mp h13).2 h19)
      refine zIloadN d_X12_row_24 rfl rfl (q := 25) rfl ?_
      refine zIf_ge d_X12_row_25 (tgt := 31) (q := 28) (by decide) rfl (fun h25 => ?_) (fun h25 => ?_)
      · refine zAloadN d_X12_row_31 rfl rfl (q := 32) rfl ?_
        refine zGetR d_X12_row_32 ff_X12_107 sh_64 (by decide) r_64_53 (q := 35) rfl ?_
        refine zIloadN d_X12_row_35 rfl rfl (q := 36) rfl ?_
        refine zBipush d_X12_row_36 (v := -2) bc_m2 (q := 38) rfl ?_
        refine zIloadN d_X12_row_38 rfl rfl (q := 39) rfl ?_
        refine zIsub d_X12_row_39 (q := 40) rfl ?_
        refine zIast d_X12_row_40 sh_96 (by decide) rfl hq (q := 41) rfl ?_
        refine zAloadN d_X12_row_41 rfl rfl (q := 42) rfl ?_
        refine zGetR d_X12_row_42 ff_X12_110 sh_64 (by decide) r_64_54 (q := 45) rfl ?_
        refine zIloadN d_X12_row_45 rfl rfl (q := 46) rfl ?_
        refine zIloadN d_X12_row_46 rfl rfl (q := 47) rfl ?_
        refine zIast d_X12_row_47 sh_97 (by decide) rfl hq (q := 48) rfl ?_
        refine zBipush d_X12_row_48 (v := 60) bc_60 (q := 50) rfl ?_
        refine zIloadN d_X12_row_50 rfl rfl (q := 51) rfl ?_
        refine zImul d_X12_row_51 (q := 52) rfl ?_
        rw [z605]
        refine zIstore d_X12_row_52 (by decide) rfl (q := 54) rfl ?_
        refine zSub [0, 1, 2, 3, 4] rfl ?_
        have h0 := loop (zup (zup I 96 (zup (I 96) q (-2 - b))) 97 (zup (I 97) q n)) hc h25 rfl (60 * q) (by omega) (Nat.le_refl _)
        rw [eL] at h0
        exact h0
      · refine zBipush d_X12_row_28 (v := -14) bc_m14 (q := 30) rfl ?_
        refine zIret d_X12_row_30 rfl rfl rfl ?_
        exact ⟨_, rfl, Or.inr (Or.inl ⟨hc, Int32.not_le.mp h25, rfl, rfl⟩)⟩
    · have hno : ¬ (0 ≤ b ∧ b ≤ 4 ∧ n ≤ 60) := fun z => h19 z.2.2
      refine zIconst d_X12_row_22 (v := -1) ic_m1 (q := 23) rfl ?_
      refine zIret d_X12_row_23 rfl rfl rfl ?_
      exact ⟨_, rfl, Or.inl ⟨hno, rfl, rfl⟩⟩
end S48

