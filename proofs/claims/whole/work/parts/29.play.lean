theorem d_X4_playTurns_0 : decode (zmc m_X4_playTurns) 0 = .ok (.aload_n 0, 1) := by decide +kernel
theorem d_X4_playTurns_1 : decode (zmc m_X4_playTurns) 1 = .ok (.getfield 16, 3) := by decide +kernel
theorem d_X4_playTurns_4 : decode (zmc m_X4_playTurns) 4 = .ok (.iconst 4, 1) := by decide +kernel
theorem d_X4_playTurns_5 : decode (zmc m_X4_playTurns) 5 = .ok (.invokevirtual 54, 3) := by decide +kernel
theorem d_X4_playTurns_8 : decode (zmc m_X4_playTurns) 8 = .ok (.istore_n 2, 1) := by decide +kernel
theorem d_X4_playTurns_9 : decode (zmc m_X4_playTurns) 9 = .ok (.aload_n 0, 1) := by decide +kernel
theorem d_X4_playTurns_10 : decode (zmc m_X4_playTurns) 10 = .ok (.getfield 16, 3) := by decide +kernel
theorem d_X4_playTurns_13 : decode (zmc m_X4_playTurns) 13 = .ok (.invokevirtual 70, 3) := by decide +kernel
theorem d_X4_playTurns_16 : decode (zmc m_X4_playTurns) 16 = .ok (.istore_n 3, 1) := by decide +kernel
theorem d_X4_playTurns_17 : decode (zmc m_X4_playTurns) 17 = .ok (.aload_n 0, 1) := by decide +kernel
theorem d_X4_playTurns_18 : decode (zmc m_X4_playTurns) 18 = .ok (.getfield 16, 3) := by decide +kernel
theorem d_X4_playTurns_21 : decode (zmc m_X4_playTurns) 21 = .ok (.getfield 20, 3) := by decide +kernel
theorem d_X4_playTurns_24 : decode (zmc m_X4_playTurns) 24 = .ok (.istore 4, 2) := by decide +kernel
theorem d_X4_playTurns_26 : decode (zmc m_X4_playTurns) 26 = .ok (.aload_n 0, 1) := by decide +kernel
theorem d_X4_playTurns_27 : decode (zmc m_X4_playTurns) 27 = .ok (.aload_n 0, 1) := by decide +kernel
theorem d_X4_playTurns_28 : decode (zmc m_X4_playTurns) 28 = .ok (.getfield 16, 3) := by decide +kernel
theorem d_X4_playTurns_31 : decode (zmc m_X4_playTurns) 31 = .ok (.invokevirtual 29, 3) := by decide +kernel
theorem d_X4_playTurns_34 : decode (zmc m_X4_playTurns) 34 = .ok (.putfield 73, 3) := by decide +kernel
theorem d_X4_playTurns_37 : decode (zmc m_X4_playTurns) 37 = .ok (.aload_n 0, 1) := by decide +kernel
theorem d_X4_playTurns_38 : decode (zmc m_X4_playTurns) 38 = .ok (.bipush 10, 2) := by decide +kernel
theorem d_X4_playTurns_40 : decode (zmc m_X4_playTurns) 40 = .ok (.putfield 75, 3) := by decide +kernel
theorem d_X4_playTurns_43 : decode (zmc m_X4_playTurns) 43 = .ok (.aload_n 0, 1) := by decide +kernel
theorem d_X4_playTurns_44 : decode (zmc m_X4_playTurns) 44 = .ok (.aload_n 0, 1) := by decide +kernel
theorem d_X4_playTurns_45 : decode (zmc m_X4_playTurns) 45 = .ok (.iload_n 2, 1) := by decide +kernel
theorem d_X4_playTurns_46 : decode (zmc m_X4_playTurns) 46 = .ok (.iload_n 1, 1) := by decide +kernel
theorem d_X4_playTurns_47 : decode (zmc m_X4_playTurns) 47 = .ok (.iconst 1, 1) := by decide +kernel
theorem d_X4_playTurns_48 : decode (zmc m_X4_playTurns) 48 = .ok (.isub, 1) := by decide +kernel
theorem d_X4_playTurns_49 : decode (zmc m_X4_playTurns) 49 = .ok (.iconst (-1), 1) := by decide +kernel
theorem d_X4_playTurns_50 : decode (zmc m_X4_playTurns) 50 = .ok (.iload 4, 2) := by decide +kernel
theorem d_X4_playTurns_52 : decode (zmc m_X4_playTurns) 52 = .ok (.iconst 1, 1) := by decide +kernel
theorem d_X4_playTurns_53 : decode (zmc m_X4_playTurns) 53 = .ok (.iadd, 1) := by decide +kernel
theorem d_X4_playTurns_54 : decode (zmc m_X4_playTurns) 54 = .ok (.invokevirtual 78, 3) := by decide +kernel
theorem d_X4_playTurns_57 : decode (zmc m_X4_playTurns) 57 = .ok (.putfield 82, 3) := by decide +kernel
theorem d_X4_playTurns_60 : decode (zmc m_X4_playTurns) 60 = .ok (.iconst 0, 1) := by decide +kernel
theorem d_X4_playTurns_61 : decode (zmc m_X4_playTurns) 61 = .ok (.istore 5, 2) := by decide +kernel
theorem d_X4_playTurns_63 : decode (zmc m_X4_playTurns) 63 = .ok (.iload 5, 2) := by decide +kernel
theorem d_X4_playTurns_65 : decode (zmc m_X4_playTurns) 65 = .ok (.aload_n 0, 1) := by decide +kernel
theorem d_X4_playTurns_66 : decode (zmc m_X4_playTurns) 66 = .ok (.getfield 16, 3) := by decide +kernel
theorem d_X4_playTurns_69 : decode (zmc m_X4_playTurns) 69 = .ok (.getfield 85, 3) := by decide +kernel
theorem d_X4_playTurns_72 : decode (zmc m_X4_playTurns) 72 = .ok (.if_icmp .ge 65, 3) := by decide +kernel
theorem d_X4_playTurns_75 : decode (zmc m_X4_playTurns) 75 = .ok (.iload_n 3, 1) := by decide +kernel
theorem d_X4_playTurns_76 : decode (zmc m_X4_playTurns) 76 = .ok (.iload 5, 2) := by decide +kernel
theorem d_X4_playTurns_78 : decode (zmc m_X4_playTurns) 78 = .ok (.ishr, 1) := by decide +kernel
theorem d_X4_playTurns_79 : decode (zmc m_X4_playTurns) 79 = .ok (.iconst 1, 1) := by decide +kernel
theorem d_X4_playTurns_80 : decode (zmc m_X4_playTurns) 80 = .ok (.iand, 1) := by decide +kernel
theorem d_X4_playTurns_81 : decode (zmc m_X4_playTurns) 81 = .ok (.ifCond .ne 6, 3) := by decide +kernel
theorem d_X4_playTurns_84 : decode (zmc m_X4_playTurns) 84 = .ok (.goto 47, 3) := by decide +kernel
theorem d_X4_playTurns_87 : decode (zmc m_X4_playTurns) 87 = .ok (.aload_n 0, 1) := by decide +kernel
theorem d_X4_playTurns_88 : decode (zmc m_X4_playTurns) 88 = .ok (.iload_n 2, 1) := by decide +kernel
theorem d_X4_playTurns_89 : decode (zmc m_X4_playTurns) 89 = .ok (.iconst 1, 1) := by decide +kernel
theorem d_X4_playTurns_90 : decode (zmc m_X4_playTurns) 90 = .ok (.iload 5, 2) := by decide +kernel
theorem d_X4_playTurns_92 : decode (zmc m_X4_playTurns) 92 = .ok (.ishl, 1) := by decide +kernel
theorem d_X4_playTurns_93 : decode (zmc m_X4_playTurns) 93 = .ok (.ior, 1) := by decide +kernel
theorem d_X4_playTurns_94 : decode (zmc m_X4_playTurns) 94 = .ok (.iload_n 1, 1) := by decide +kernel
theorem d_X4_playTurns_95 : decode (zmc m_X4_playTurns) 95 = .ok (.iconst 1, 1) := by decide +kernel
theorem d_X4_playTurns_96 : decode (zmc m_X4_playTurns) 96 = .ok (.isub, 1) := by decide +kernel
theorem d_X4_playTurns_97 : decode (zmc m_X4_playTurns) 97 = .ok (.aload_n 0, 1) := by decide +kernel
theorem d_X4_playTurns_98 : decode (zmc m_X4_playTurns) 98 = .ok (.getfield 82, 3) := by decide +kernel
theorem d_X4_playTurns_101 : decode (zmc m_X4_playTurns) 101 = .ok (.iload 4, 2) := by decide +kernel
theorem d_X4_playTurns_103 : decode (zmc m_X4_playTurns) 103 = .ok (.iconst 1, 1) := by decide +kernel
theorem d_X4_playTurns_104 : decode (zmc m_X4_playTurns) 104 = .ok (.iadd, 1) := by decide +kernel
theorem d_X4_playTurns_105 : decode (zmc m_X4_playTurns) 105 = .ok (.invokevirtual 78, 3) := by decide +kernel
theorem d_X4_playTurns_108 : decode (zmc m_X4_playTurns) 108 = .ok (.istore 6, 2) := by decide +kernel
theorem d_X4_playTurns_110 : decode (zmc m_X4_playTurns) 110 = .ok (.iload 6, 2) := by decide +kernel
theorem d_X4_playTurns_112 : decode (zmc m_X4_playTurns) 112 = .ok (.aload_n 0, 1) := by decide +kernel
theorem d_X4_playTurns_113 : decode (zmc m_X4_playTurns) 113 = .ok (.getfield 82, 3) := by decide +kernel
theorem d_X4_playTurns_116 : decode (zmc m_X4_playTurns) 116 = .ok (.if_icmp .le 15, 3) := by decide +kernel
theorem d_X4_playTurns_119 : decode (zmc m_X4_playTurns) 119 = .ok (.aload_n 0, 1) := by decide +kernel
theorem d_X4_playTurns_120 : decode (zmc m_X4_playTurns) 120 = .ok (.iload 6, 2) := by decide +kernel
theorem d_X4_playTurns_122 : decode (zmc m_X4_playTurns) 122 = .ok (.putfield 82, 3) := by decide +kernel
theorem d_X4_playTurns_125 : decode (zmc m_X4_playTurns) 125 = .ok (.aload_n 0, 1) := by decide +kernel
theorem d_X4_playTurns_126 : decode (zmc m_X4_playTurns) 126 = .ok (.iload 5, 2) := by decide +kernel
theorem d_X4_playTurns_128 : decode (zmc m_X4_playTurns) 128 = .ok (.putfield 75, 3) := by decide +kernel
theorem d_X4_playTurns_131 : decode (zmc m_X4_playTurns) 131 = .ok (.iinc 5 1, 3) := by decide +kernel
theorem d_X4_playTurns_134 : decode (zmc m_X4_playTurns) 134 = .ok (.goto (-71), 3) := by decide +kernel
theorem d_X4_playTurns_137 : decode (zmc m_X4_playTurns) 137 = .ok (.return_, 1) := by decide +kernel
/-! THE TURNS ARE PLAYED -/
theorem zfor_inv {σ : Type} {f : Nat → σ → σ} {P : σ → Prop} (n : Nat) (hf : ∀ k s, k < n → P s → P (f k s)) : ∀ k, k ≤ n → ∀ s, P s → P (zfor f n k s) := by
  refine zloop n (fun k hk ih s hs => ?_)
  rcases Nat.eq_or_lt_of_le hk with e | hlt
  · rw [zfor_end (by omega)]; exact hs
  · rw [zfor_step hlt]; exact ih hlt _ (hf k s hlt hs)
theorem zor_b : ∀ k, k < 6 → ∀ x, x < 2 ^ k → nI x ||| ((1 : Int32) <<< (nI k &&& 31)) = nI (x + 2 ^ k) := by decide +kernel
theorem zbc_b : ∀ k, k ≤ 6 → ∀ x, x < 2 ^ k → 0 ≤ zbc (nI x) ∧ zbc (nI x) ≤ nI k := by decide +kernel
theorem zSteer_lt {I : Nat → Nat → Int32} {nh : Nat} {up : Int32} (hn : nh ≤ 6) : ∃ x, x < 2 ^ nh ∧ zSteer I nh up = nI x := by
  have key : ∀ k, k ≤ nh → ∀ s, (∃ x, x < 2 ^ k ∧ s = nI x) → ∃ x, x < 2 ^ nh ∧ zfor (fun k s => if I 11 k &&& up = 0 then s else s ||| ((1 : Int32) <<< (nI k &&& 31))) nh k s = nI x := by
    refine zloop nh (fun k hk ih s hs => ?_)
    rcases Nat.eq_or_lt_of_le hk with e | hlt
    · rw [zfor_end (by omega), ← e]; exact hs
    · rw [zfor_step hlt]
      obtain ⟨x, hx, rfl⟩ := hs
      refine ih hlt _ ?_
      have h2 : 2 ^ (k + 1) = 2 ^ k + 2 ^ k := by rw [Nat.pow_succ]; omega
      by_cases q : I 11 k &&& up = 0
      · rw [if_pos q]; exact ⟨x, by omega, rfl⟩
      · rw [if_neg q]; exact ⟨x + 2 ^ k, by omega, zor_b k (by omega) x hx⟩
  exact key 0 (Nat.zero_le _) 0 ⟨0, by decide, rfl⟩
theorem zVal_b {I : Nat → Nat → Int32} {ns nh : Nat} {ah : Int32} (hn : nh ≤ 6) : ∀ n w up, 0 ≤ zVal I ns nh ah n w up ∧ zVal I ns nh ah n w up ≤ nI nh := by
  intro n
  induction n with
  | zero =>
    intro w up
    obtain ⟨x, h1, h2⟩ := zSteer_lt (I := I) (up := up) hn
    have e : zVal I ns nh ah 0 w up = zbc (nI x) := by rw [← h2]; rfl
    rw [e]
    exact zbc_b nh hn x h1
  | succ n ih =>
    intro w up
    cases w
    · unfold zVal
      refine zfor_inv (P := fun s => 0 ≤ s ∧ s ≤ nI nh) ns (fun k s _ hs => ?_) 0 (Nat.zero_le _) _ (ih _ _)
      have h2 := ih true (up &&& (zB1 k ^^^ (-1)))
      by_cases q : up &&& zB1 k = 0
      · rw [if_pos q]; exact hs
      · rw [if_neg q]; unfold zmn2; split
        · exact h2
        · exact hs
    · unfold zVal
      refine zfor_inv (P := fun s => 0 ≤ s ∧ s ≤ nI nh) ns (fun k s _ hs => ?_) 0 (Nat.zero_le _) _ (ih _ _)
      have h2 := ih false (up ||| zB1 k)
      by_cases q : (ah &&& (up ^^^ (-1))) &&& zB1 k = 0
      · rw [if_pos q]; exact hs
      · rw [if_neg q]; unfold zmx; split
        · exact h2
        · exact hs
theorem zVal_ex {I J : Nat → Nat → Int32} {ns nh : Nat} {ah : Int32} (e : J 11 = I 11) : ∀ n w up, zVal J ns nh ah n w up = zVal I ns nh ah n w up := by
  intro n
  induction n with
  | zero => intro w up; show zbc (zSteer J nh up) = zbc (zSteer I nh up); unfold zSteer; rw [e]
  | succ n ih => intro w up; cases w <;> (unfold zVal; simp only [ih])
def zPT (I : Nat → Nat → Int32) (ns nh n k : Nat) (s : Int32 × Int32) : Int32 × Int32 :=
  if (zWait I ns >>> (nI k &&& 31)) &&& 1 = 0 then s else if s.1 < zVal I ns nh (zAtHand I ns) n false (zbits (I 7) ns ||| zB1 k) then (zVal I ns nh (zAtHand I ns) n false (zbits (I 7) ns ||| zB1 k), nI k) else s
def zPTs (I : Nat → Nat → Int32) (ns nh n : Nat) : Int32 × Int32 := zfor (zPT I ns nh n) ns 0 (zVal I ns nh (zAtHand I ns) n false (zbits (I 7) ns), 10)
section S29
variable {g : zG} {l : Launch} {d : Nat} {I : Nat → Nat → Int32} {L : Nat → Nat → Int64} {fs : Nat × Nat × Option Nat} {ns nt nh : Nat}
theorem sp_X4_playTurns (hd : 12 ≤ d) (hK : zSky I ns nt nh) {n : Nat} (hn : n ≤ 3) : zSp g l d 100 m_X4_playTurns [.ref 16, .int (nI (n + 1))] (zU I L fs) (zV (fun w => ∃ J, w = zU J L fs ∧ (∀ a, a ≠ 16 → J a = I a) ∧ J 16 7 = (zPTs I ns nh n).1 ∧ J 16 8 = (zPTs I ns nh n).2)) := by
  have hns := hK.2.1
  have hnh := hK.2.2.2
  have e1 : nI nh + 1 = nI (nh + 1) := nI_1 nh
  have loop : ∀ k, k ≤ ns → ∀ J s, (∀ a, a ≠ 16 → J a = I a) → J 16 6 = zAtHand I ns → J 16 7 = s.1 → J 16 8 = s.2 → (0 ≤ s.1 ∧ s.1 ≤ nI nh) → zfor (zPT I ns nh n) ns k s = zPTs I ns nh n → zA g l d m_X4_playTurns J L fs 63 [(5, .int (nI k)), (4, .int (nI nh)), (3, .int (zWait I ns)), (2, .int (zbits (I 7) ns)), (0, .ref 16), (1, .int (nI (n + 1)))] (zV (fun w => ∃ J, w = zU J L fs ∧ (∀ a, a ≠ 16 → J a = I a) ∧ J 16 7 = (zPTs I ns nh n).1 ∧ J 16 8 = (zPTs I ns nh n).2)) := by
    refine zloop ns (fun k hk ih J s hJ h6 h7 h8 hs hx => ?_)
    have hK1 : zSky J ns nt nh := zSky_of (hJ 1 (by decide)) hK
    have hv := zVal_b (I := I) (ns := ns) (ah := zAtHand I ns) hnh n false (zbits (I 7) ns ||| zB1 k)
    refine zIload d_X4_playTurns_63 rfl (q := 65) rfl ?_
    refine zAloadN d_X4_playTurns_65 rfl rfl (q := 66) rfl ?_
    refine zGetR d_X4_playTurns_66 ff_X4_16 sh_16 (by decide) r_16_0 (q := 69) rfl ?_
    refine zGetI d_X4_playTurns_69 ff_X4_85 sh_1 (by decide) (q := 72) rfl ?_
    refine zIcmp_ge d_X4_playTurns_72 (tgt := 137) (q := 75) (by decide) rfl (fun h72 => ?_) (fun h72 => ?_)
    · have e := nle (hK1.1.1 ▸ h72)
      rw [zfor_end e] at hx
      refine zVret d_X4_playTurns_137 rfl rfl ?_
      exact ⟨rfl, _, rfl, hJ, by rw [h7, hx], by rw [h8, hx]⟩
    · have hlt := nnle (hK1.1.1 ▸ h72)
      rw [zfor_step hlt] at hx
      refine zIloadN d_X4_playTurns_75 rfl rfl (q := 76) rfl ?_
      refine zIload d_X4_playTurns_76 rfl (q := 78) rfl ?_
      refine zIshr d_X4_playTurns_78 (q := 79) rfl ?_
      refine zIconst d_X4_playTurns_79 (v := 1) ic_1 (q := 80) rfl ?_
      refine zIand d_X4_playTurns_80 (q := 81) rfl ?_
      refine zIf_ne d_X4_playTurns_81 (tgt := 87) (q := 84) (by decide) rfl (fun h81 => ?_) (fun h81 => ?_)
      · have hq : ¬ (zWait I ns >>> (nI k &&& 31)) &&& 1 = 0 := h81
        refine zAloadN d_X4_playTurns_87 rfl rfl (q := 88) rfl ?_
        refine zIloadN d_X4_playTurns_88 rfl rfl (q := 89) rfl ?_
        refine zIconst d_X4_playTurns_89 (v := 1) ic_1 (q := 90) rfl ?_
        refine zIload d_X4_playTurns_90 rfl (q := 92) rfl ?_
        refine zIshl d_X4_playTurns_92 (q := 93) rfl ?_
        refine zIor d_X4_playTurns_93 (q := 94) rfl ?_
        refine zIloadN d_X4_playTurns_94 rfl rfl (q := 95) rfl ?_
        refine zIconst d_X4_playTurns_95 (v := 1) ic_1 (q := 96) rfl ?_
        refine zIsub d_X4_playTurns_96 (q := 97) rfl ?_
        rw [nI_pred]
        refine zAloadN d_X4_playTurns_97 rfl rfl (q := 98) rfl ?_
        refine zGetI d_X4_playTurns_98 ff_X4_82 sh_16 (by decide) (q := 101) rfl ?_
        refine zIload d_X4_playTurns_101 rfl (q := 103) rfl ?_
        refine zIconst d_X4_playTurns_103 (v := 1) ic_1 (q := 104) rfl ?_
        refine zIadd d_X4_playTurns_104 (q := 105) rfl ?_
        rw [h7, e1]
        refine zCallVX d_X4_playTurns_105 ml_X4_78 k_X4_fewestBehind ki_X4_fewestBehind ks_X4_fewestBehind ((sp_X4_most (g := g) (l := l) (L := L) (fs := fs) hK1 h6 n (by omega) (d - 1) (zbits (I 7) ns ||| zB1 k) s.1 (nI (nh + 1)) (by omega) (by have := hs.2; have h9 : nI nh < nI (nh + 1) := (nI_ltI (by omega) (by omega)).mpr (by omega); exact Int32.lt_of_le_of_lt this h9)).2) rfl rfl sh_16 (by decide) rfl (by decide) (Nat.le_of_ble_eq_true rfl) (by decide) (by omega) zns100 (q := 108) rfl (fun r w' hw' => ?_)
        obtain ⟨hr, rfl⟩ := hw'
        rw [zVal_ex (hJ 11 (by decide))] at hr
        have h9 : nI nh < nI (nh + 1) := (nI_ltI (by omega) (by omega)).mpr (by omega)
        refine zIstore d_X4_playTurns_108 (by decide) rfl (q := 110) rfl ?_
        refine zIload d_X4_playTurns_110 rfl (q := 112) rfl ?_
        refine zAloadN d_X4_playTurns_112 rfl rfl (q := 113) rfl ?_
        refine zGetI d_X4_playTurns_113 ff_X4_82 sh_16 (by decide) (q := 116) rfl ?_
        rw [h7]
        refine zIcmp_le d_X4_playTurns_116 (tgt := 131) (q := 119) (by decide) rfl (fun h116 => ?_) (fun h116 => ?_)
        · have ep : zPT I ns nh n k s = s := by unfold zPT; rw [if_neg hq]; exact if_neg (by unfold zAB at hr; grind)
          rw [ep] at hx
          refine zIinc d_X4_playTurns_131 rfl (zinc _) (by decide) rfl (q := 134) rfl ?_
          refine zGoto d_X4_playTurns_134 (q := 63) (by decide) ?_
          refine zSub [0, 2, 3, 4, 5, 6] rfl ?_
          first
          | exact ih hlt _ s hJ h6 h7 h8 hs hx
          | exact ih hlt _ (r, nI k) (fun a h => by rw [zup_ne h, zup_ne h]; exact hJ a h) h6 rfl rfl (by rw [hrv]; exact hv) hx
        · have hrv : r = zVal I ns nh (zAtHand I ns) n false (zbits (I 7) ns ||| zB1 k) := by unfold zAB at hr; grind
          have ep : zPT I ns nh n k s = (r, nI k) := by unfold zPT; rw [if_neg hq, ← hrv]; exact if_pos (Int32.not_le.mp h116)
          rw [ep] at hx
          refine zAloadN d_X4_playTurns_119 rfl rfl (q := 120) rfl ?_
          refine zIload d_X4_playTurns_120 rfl (q := 122) rfl ?_
          refine zPutI d_X4_playTurns_122 ff_X4_82 rfl rfl rfl sh_16 (by decide) (q := 125) rfl ?_
          refine zAloadN d_X4_playTurns_125 rfl rfl (q := 126) rfl ?_
          refine zIload d_X4_playTurns_126 rfl (q := 128) rfl ?_
          refine zPutI d_X4_playTurns_128 ff_X4_75 rfl rfl rfl sh_16 (by decide) (q := 131) rfl ?_
          refine zIinc d_X4_playTurns_131 rfl (zinc _) (by decide) rfl (q := 134) rfl ?_
          refine zGoto d_X4_playTurns_134 (q := 63) (by decide) ?_
          refine zSub [0, 2, 3, 4, 5, 6] rfl ?_
          first
          | exact ih hlt _ s hJ h6 h7 h8 hs hx
          | exact ih hlt _ (r, nI k) (fun a h => by rw [zup_ne h, zup_ne h]; exact hJ a h) h6 rfl rfl (by rw [hrv]; exact hv) hx
      · have ep : zPT I ns nh n k s = s := by unfold zPT; exact if_pos (by simpa using h81)
        rw [ep] at hx
        refine zGoto d_X4_playTurns_84 (q := 131) (by decide) ?_
        refine zIinc d_X4_playTurns_131 rfl (zinc _) (by decide) rfl (q := 134) rfl ?_
        refine zGoto d_X4_playTurns_134 (q := 63) (by decide) ?_
        refine zSub [0, 1, 2, 3, 4, 5] rfl ?_
        first
        | exact ih hlt _ s hJ h6 h7 h8 hs hx
        | exact ih hlt _ (r, nI k) (fun a h => by rw [zup_ne h, zup_ne h]; exact hJ a h) h6 rfl rfl (by rw [hrv]; exact hv) hx
  refine zSp_of (lv := [(0, .ref 16), (1, .int (nI (n + 1)))]) k_X4_playTurns rfl (Nat.le_of_ble_eq_true rfl) ?_
  refine zAloadN d_X4_playTurns_0 rfl rfl (q := 1) rfl ?_
  refine zGetR d_X4_playTurns_1 ff_X4_16 sh_16 (by decide) r_16_0 (q := 4) rfl ?_
  refine zIconst d_X4_playTurns_4 (v := 4) ic_4 (q := 5) rfl ?_
  refine zCallVP d_X4_playTurns_5 ml_X4_54 k_X9_bits ki_X9_bits ks_X9_bits (sp_X9_bits4 (d := d - 1) (by omega) hK) rfl rfl sh_1 (by decide) rfl (by decide) (Nat.le_of_ble_eq_true rfl) (by decide) (by omega) zns100 (q := 8) rfl ?_
  refine zIstoreN d_X4_playTurns_8 rfl (by decide) rfl (q := 9) rfl ?_
  refine zAloadN d_X4_playTurns_9 rfl rfl (q := 10) rfl ?_
  refine zGetR d_X4_playTurns_10 ff_X4_16 sh_16 (by decide) r_16_0 (q := 13) rfl ?_
  refine zCallVP d_X4_playTurns_13 ml_X4_70 k_X9_waiting ki_X9_waiting ks_X9_waiting (sp_X9_waiting (d := d - 1) (by omega) hK) rfl rfl sh_1 (by decide) rfl (by decide) (Nat.le_of_ble_eq_true rfl) (by decide) (by omega) zns100 (q := 16) rfl ?_
  refine zIstoreN d_X4_playTurns_16 rfl (by decide) rfl (q := 17) rfl ?_
  refine zAloadN d_X4_playTurns_17 rfl rfl (q := 18) rfl ?_
  refine zGetR d_X4_playTurns_18 ff_X4_16 sh_16 (by decide) r_16_0 (q := 21) rfl ?_
  refine zGetI d_X4_playTurns_21 ff_X4_20 sh_1 (by decide) (q := 24) rfl ?_
  rw [hK.1.2.2]
  refine zIstore d_X4_playTurns_24 (by decide) rfl (q := 26) rfl ?_
  refine zAloadN d_X4_playTurns_26 rfl rfl (q := 27) rfl ?_
  refine zAloadN d_X4_playTurns_27 rfl rfl (q := 28) rfl ?_
  refine zGetR d_X4_playTurns_28 ff_X4_16 sh_16 (by decide) r_16_0 (q := 31) rfl ?_
  refine zCallVP d_X4_playTurns_31 ml_X4_29 k_X9_atHand ki_X9_atHand ks_X9_atHand (sp_X9_atHand (d := d - 1) (by omega) hK) rfl rfl sh_1 (by decide) rfl (by decide) (Nat.le_of_ble_eq_true rfl) (by decide) (by omega) zns100 (q := 34) rfl ?_
  refine zPutI d_X4_playTurns_34 ff_X4_73 rfl rfl rfl sh_16 (by decide) (q := 37) rfl ?_
  refine zAloadN d_X4_playTurns_37 rfl rfl (q := 38) rfl ?_
  refine zBipush d_X4_playTurns_38 (v := 10) bc_10 (q := 40) rfl ?_
  refine zPutI d_X4_playTurns_40 ff_X4_75 rfl rfl rfl sh_16 (by decide) (q := 43) rfl ?_
  refine zAloadN d_X4_playTurns_43 rfl rfl (q := 44) rfl ?_
  refine zAloadN d_X4_playTurns_44 rfl rfl (q := 45) rfl ?_
  refine zIloadN d_X4_playTurns_45 rfl rfl (q := 46) rfl ?_
  refine zIloadN d_X4_playTurns_46 rfl rfl (q := 47) rfl ?_
  refine zIconst d_X4_playTurns_47 (v := 1) ic_1 (q := 48) rfl ?_
  refine zIsub d_X4_playTurns_48 (q := 49) rfl ?_
  rw [nI_pred]
  refine zIconst d_X4_playTurns_49 (v := -1) ic_m1 (q := 50) rfl ?_
  refine zIload d_X4_playTurns_50 rfl (q := 52) rfl ?_
  refine zIconst d_X4_playTurns_52 (v := 1) ic_1 (q := 53) rfl ?_
  refine zIadd d_X4_playTurns_53 (q := 54) rfl ?_
  rw [e1]
  refine zCallVX d_X4_playTurns_54 ml_X4_78 k_X4_fewestBehind ki_X4_fewestBehind ks_X4_fewestBehind ((sp_X4_most (g := g) (l := l) (L := L) (fs := fs) (I := zup (zup I 16 (zup (I 16) 6 (zAtHand I ns))) 16 (zup ((zup I 16 (zup (I 16) 6 (zAtHand I ns))) 16) 8 10)) (ns := ns) (nt := nt) (nh := nh) (ah := zAtHand I ns) (zSky_up (zSky_up hK (by decide)) (by decide)) rfl n (by omega) (d - 1) (zbits (I 7) ns) (-1) (nI (nh + 1)) (by omega) ((nI_ltI (a := 0) (b := nh + 1) (by omega) (by omega)).mpr (by omega) |> Int32.lt_trans (by decide))).2) rfl rfl sh_16 (by decide) rfl (by decide) (Nat.le_of_ble_eq_true rfl) (by decide) (by omega) zns100 (q := 57) rfl (fun r w' hw' => ?_)
  obtain ⟨hr, rfl⟩ := hw'
  have hv := zVal_b (I := I) (ns := ns) (ah := zAtHand I ns) hnh n false (zbits (I 7) ns)
  have hv2 : zVal (zup (zup I 16 (zup (I 16) 6 (zAtHand I ns))) 16 (zup ((zup I 16 (zup (I 16) 6 (zAtHand I ns))) 16) 8 10)) ns nh (zAtHand I ns) n false (zbits (I 7) ns) = zVal I ns nh (zAtHand I ns) n false (zbits (I 7) ns) := zVal_ex (by rw [zup_ne (by decide), zup_ne (by decide)]) n false (zbits (I 7) ns)
  rw [hv2] at hr
  have h9 : nI nh < nI (nh + 1) := (nI_ltI (by omega) (by omega)).mpr (by omega)
  have hrv : r = zVal I ns nh (zAtHand I ns) n false (zbits (I 7) ns) := by unfold zAB at hr; grind
  refine zPutI d_X4_playTurns_57 ff_X4_82 rfl rfl rfl sh_16 (by decide) (q := 60) rfl ?_
  refine zIconst d_X4_playTurns_60 (v := 0) ic_0 (q := 61) rfl ?_
  refine zIstore d_X4_playTurns_61 (by decide) rfl (q := 63) rfl ?_
  refine zSub [0, 1, 2, 3, 4, 5] rfl ?_
  exact loop 0 (Nat.zero_le _) _ (r, 10) (fun a h => by rw [zup_ne h, zup_ne h, zup_ne h]) rfl rfl rfl (by rw [hrv]; exact hv) (by rw [hrv]; rfl)
end S29

