theorem d_X12_walk_0 : decode (zmc m_X12_walk) 0 = .ok (.iload_n 1, 1) := by decide +kernel
theorem d_X12_walk_1 : decode (zmc m_X12_walk) 1 = .ok (.iconst 0, 1) := by decide +kernel
theorem d_X12_walk_2 : decode (zmc m_X12_walk) 2 = .ok (.bipush 23, 2) := by decide +kernel
theorem d_X12_walk_4 : decode (zmc m_X12_walk) 4 = .ok (.invokestatic 127, 3) := by decide +kernel
theorem d_X12_walk_7 : decode (zmc m_X12_walk) 7 = .ok (.ifCond .eq 22, 3) := by decide +kernel
theorem d_X12_walk_10 : decode (zmc m_X12_walk) 10 = .ok (.iload_n 2, 1) := by decide +kernel
theorem d_X12_walk_11 : decode (zmc m_X12_walk) 11 = .ok (.iconst 0, 1) := by decide +kernel
theorem d_X12_walk_12 : decode (zmc m_X12_walk) 12 = .ok (.bipush 40, 2) := by decide +kernel
theorem d_X12_walk_14 : decode (zmc m_X12_walk) 14 = .ok (.invokestatic 127, 3) := by decide +kernel
theorem d_X12_walk_17 : decode (zmc m_X12_walk) 17 = .ok (.ifCond .eq 12, 3) := by decide +kernel
theorem d_X12_walk_20 : decode (zmc m_X12_walk) 20 = .ok (.iload_n 3, 1) := by decide +kernel
theorem d_X12_walk_21 : decode (zmc m_X12_walk) 21 = .ok (.iconst 0, 1) := by decide +kernel
theorem d_X12_walk_22 : decode (zmc m_X12_walk) 22 = .ok (.iconst 1, 1) := by decide +kernel
theorem d_X12_walk_23 : decode (zmc m_X12_walk) 23 = .ok (.invokestatic 127, 3) := by decide +kernel
theorem d_X12_walk_26 : decode (zmc m_X12_walk) 26 = .ok (.ifCond .ne 5, 3) := by decide +kernel
theorem d_X12_walk_29 : decode (zmc m_X12_walk) 29 = .ok (.iconst (-1), 1) := by decide +kernel
theorem d_X12_walk_30 : decode (zmc m_X12_walk) 30 = .ok (.ireturn, 1) := by decide +kernel
theorem d_X12_walk_31 : decode (zmc m_X12_walk) 31 = .ok (.iconst (-1), 1) := by decide +kernel
theorem d_X12_walk_32 : decode (zmc m_X12_walk) 32 = .ok (.istore 4, 2) := by decide +kernel
theorem d_X12_walk_34 : decode (zmc m_X12_walk) 34 = .ok (.iconst 0, 1) := by decide +kernel
theorem d_X12_walk_35 : decode (zmc m_X12_walk) 35 = .ok (.istore 5, 2) := by decide +kernel
theorem d_X12_walk_37 : decode (zmc m_X12_walk) 37 = .ok (.iconst 0, 1) := by decide +kernel
theorem d_X12_walk_38 : decode (zmc m_X12_walk) 38 = .ok (.istore 6, 2) := by decide +kernel
theorem d_X12_walk_40 : decode (zmc m_X12_walk) 40 = .ok (.iload 6, 2) := by decide +kernel
theorem d_X12_walk_42 : decode (zmc m_X12_walk) 42 = .ok (.iload_n 1, 1) := by decide +kernel
theorem d_X12_walk_43 : decode (zmc m_X12_walk) 43 = .ok (.if_icmp .gt 94, 3) := by decide +kernel
theorem d_X12_walk_46 : decode (zmc m_X12_walk) 46 = .ok (.iconst 0, 1) := by decide +kernel
theorem d_X12_walk_47 : decode (zmc m_X12_walk) 47 = .ok (.istore 7, 2) := by decide +kernel
theorem d_X12_walk_49 : decode (zmc m_X12_walk) 49 = .ok (.iload_n 1, 1) := by decide +kernel
theorem d_X12_walk_50 : decode (zmc m_X12_walk) 50 = .ok (.iload 7, 2) := by decide +kernel
theorem d_X12_walk_52 : decode (zmc m_X12_walk) 52 = .ok (.iadd, 1) := by decide +kernel
theorem d_X12_walk_53 : decode (zmc m_X12_walk) 53 = .ok (.bipush 24, 2) := by decide +kernel
theorem d_X12_walk_55 : decode (zmc m_X12_walk) 55 = .ok (.if_icmp .ge 76, 3) := by decide +kernel
theorem d_X12_walk_58 : decode (zmc m_X12_walk) 58 = .ok (.iload 6, 2) := by decide +kernel
theorem d_X12_walk_60 : decode (zmc m_X12_walk) 60 = .ok (.iload 7, 2) := by decide +kernel
theorem d_X12_walk_62 : decode (zmc m_X12_walk) 62 = .ok (.if_icmp .ge 13, 3) := by decide +kernel
theorem d_X12_walk_65 : decode (zmc m_X12_walk) 65 = .ok (.iconst 2, 1) := by decide +kernel
theorem d_X12_walk_66 : decode (zmc m_X12_walk) 66 = .ok (.iload 6, 2) := by decide +kernel
theorem d_X12_walk_68 : decode (zmc m_X12_walk) 68 = .ok (.imul, 1) := by decide +kernel
theorem d_X12_walk_69 : decode (zmc m_X12_walk) 69 = .ok (.iload 7, 2) := by decide +kernel
theorem d_X12_walk_71 : decode (zmc m_X12_walk) 71 = .ok (.iadd, 1) := by decide +kernel
theorem d_X12_walk_72 : decode (zmc m_X12_walk) 72 = .ok (.goto 10, 3) := by decide +kernel
theorem d_X12_walk_75 : decode (zmc m_X12_walk) 75 = .ok (.iload 6, 2) := by decide +kernel
theorem d_X12_walk_77 : decode (zmc m_X12_walk) 77 = .ok (.iconst 2, 1) := by decide +kernel
theorem d_X12_walk_78 : decode (zmc m_X12_walk) 78 = .ok (.iload 7, 2) := by decide +kernel
theorem d_X12_walk_80 : decode (zmc m_X12_walk) 80 = .ok (.imul, 1) := by decide +kernel
theorem d_X12_walk_81 : decode (zmc m_X12_walk) 81 = .ok (.iadd, 1) := by decide +kernel
theorem d_X12_walk_82 : decode (zmc m_X12_walk) 82 = .ok (.istore 8, 2) := by decide +kernel
theorem d_X12_walk_84 : decode (zmc m_X12_walk) 84 = .ok (.iload 8, 2) := by decide +kernel
theorem d_X12_walk_86 : decode (zmc m_X12_walk) 86 = .ok (.iload_n 2, 1) := by decide +kernel
theorem d_X12_walk_87 : decode (zmc m_X12_walk) 87 = .ok (.if_icmp .le 6, 3) := by decide +kernel
theorem d_X12_walk_90 : decode (zmc m_X12_walk) 90 = .ok (.goto 35, 3) := by decide +kernel
theorem d_X12_walk_93 : decode (zmc m_X12_walk) 93 = .ok (.aload_n 0, 1) := by decide +kernel
theorem d_X12_walk_94 : decode (zmc m_X12_walk) 94 = .ok (.iload_n 1, 1) := by decide +kernel
theorem d_X12_walk_95 : decode (zmc m_X12_walk) 95 = .ok (.iload 6, 2) := by decide +kernel
theorem d_X12_walk_97 : decode (zmc m_X12_walk) 97 = .ok (.isub, 1) := by decide +kernel
theorem d_X12_walk_98 : decode (zmc m_X12_walk) 98 = .ok (.iload_n 1, 1) := by decide +kernel
theorem d_X12_walk_99 : decode (zmc m_X12_walk) 99 = .ok (.iload 7, 2) := by decide +kernel
theorem d_X12_walk_101 : decode (zmc m_X12_walk) 101 = .ok (.iadd, 1) := by decide +kernel
theorem d_X12_walk_102 : decode (zmc m_X12_walk) 102 = .ok (.invokevirtual 318, 3) := by decide +kernel
theorem d_X12_walk_105 : decode (zmc m_X12_walk) 105 = .ok (.istore 9, 2) := by decide +kernel
theorem d_X12_walk_107 : decode (zmc m_X12_walk) 107 = .ok (.iload 9, 2) := by decide +kernel
theorem d_X12_walk_109 : decode (zmc m_X12_walk) 109 = .ok (.iload 4, 2) := by decide +kernel
theorem d_X12_walk_111 : decode (zmc m_X12_walk) 111 = .ok (.if_icmp .gt 6, 3) := by decide +kernel
theorem d_X12_walk_114 : decode (zmc m_X12_walk) 114 = .ok (.goto 11, 3) := by decide +kernel
theorem d_X12_walk_117 : decode (zmc m_X12_walk) 117 = .ok (.iload 9, 2) := by decide +kernel
theorem d_X12_walk_119 : decode (zmc m_X12_walk) 119 = .ok (.istore 4, 2) := by decide +kernel
theorem d_X12_walk_121 : decode (zmc m_X12_walk) 121 = .ok (.iload 6, 2) := by decide +kernel
theorem d_X12_walk_123 : decode (zmc m_X12_walk) 123 = .ok (.istore 5, 2) := by decide +kernel
theorem d_X12_walk_125 : decode (zmc m_X12_walk) 125 = .ok (.iinc 7 1, 3) := by decide +kernel
theorem d_X12_walk_128 : decode (zmc m_X12_walk) 128 = .ok (.goto (-79), 3) := by decide +kernel
theorem d_X12_walk_131 : decode (zmc m_X12_walk) 131 = .ok (.iinc 6 1, 3) := by decide +kernel
theorem d_X12_walk_134 : decode (zmc m_X12_walk) 134 = .ok (.goto (-94), 3) := by decide +kernel
theorem d_X12_walk_137 : decode (zmc m_X12_walk) 137 = .ok (.iload_n 3, 1) := by decide +kernel
theorem d_X12_walk_138 : decode (zmc m_X12_walk) 138 = .ok (.ifCond .ne 8, 3) := by decide +kernel
theorem d_X12_walk_141 : decode (zmc m_X12_walk) 141 = .ok (.iload 4, 2) := by decide +kernel
theorem d_X12_walk_143 : decode (zmc m_X12_walk) 143 = .ok (.goto 5, 3) := by decide +kernel
theorem d_X12_walk_146 : decode (zmc m_X12_walk) 146 = .ok (.iload 5, 2) := by decide +kernel
theorem d_X12_walk_148 : decode (zmc m_X12_walk) 148 = .ok (.ireturn, 1) := by decide +kernel
/-! THE REFERENCE: the best walk -/
theorem zsum_s {B : Nat → Int32} {n : Nat} {x : Int32} : ∀ k, k ≤ n → ∀ s, zfor (fun p s => s + B p) n k (s + x) = zfor (fun p s => s + B p) n k s + x := by
  refine zloop n (fun k hk ih s => ?_)
  rcases Nat.eq_or_lt_of_le hk with rfl | hlt
  · rw [zfor_end (Nat.le_refl _), zfor_end (Nat.le_refl _)]
  · rw [zfor_step hlt, zfor_step hlt, ← ih hlt (s + B k)]
    congr 1
    grind
theorem zsum_up {B : Nat → Int32} {n j : Nat} {x : Int32} : ∀ k, k ≤ n → ∀ s, zfor (fun p s => s + (zup B j (B j + x)) p) n k s = zfor (fun p s => s + B p) n k s + (if k ≤ j ∧ j < n then x else 0) := by
  refine zloop n (fun k hk ih s => ?_)
  rcases Nat.eq_or_lt_of_le hk with rfl | hlt
  · rw [zfor_end (Nat.le_refl _), zfor_end (Nat.le_refl _), if_neg (by omega)]; simp
  · rw [zfor_step hlt, zfor_step hlt, ih hlt]
    by_cases e : j = k
    · subst e
      have h := zsum_s (B := B) (x := x) (j + 1) hlt (s + B j)
      rw [zup_eq, if_neg (by omega), if_pos ⟨Nat.le_refl _, hlt⟩, Int32.add_zero, ← h, Int32.add_assoc]
    · rw [zup_ne (Ne.symm e)]
      congr 1
      by_cases c : k + 1 ≤ j ∧ j < n
      · rw [if_pos c, if_pos (by omega)]
      · rw [if_neg c, if_neg (by omega)]
theorem zSumB_up {B : Nat → Int32} {a b j : Nat} {x : Int32} (ha : a ≤ min (b + 1) 24) (hj : j < 24) : zSumB (zup B j (B j + x)) a b = zSumB B a b + (if a ≤ j ∧ j ≤ b then x else 0) := by
  unfold zSumB
  rw [zsum_up a ha]
  congr 1
  by_cases c : a ≤ j ∧ j ≤ b
  · rw [if_pos c, if_pos (by omega)]
  · rw [if_neg c, if_neg (by omega)]
theorem zZero32_at (f : Nat → Int32) (n : Nat) (j : Nat) (hj : j < n) : zZero32 f n 0 j = 0 := by
  have key : ∀ k, k ≤ n → ∀ f : Nat → Int32, (j < k → f j = 0) → zZero32 f n k j = 0 := by
    refine zloop n (fun k hk ih f h => ?_)
    unfold zZero32 at ih ⊢
    rcases Nat.eq_or_lt_of_le hk with rfl | hlt
    · rw [zfor_end (Nat.le_refl _)]; exact h hj
    · rw [zfor_step hlt]
      refine ih hlt _ (fun q => ?_)
      by_cases e : j = k
      · subst e; exact zup_eq
      · rw [zup_ne e]; exact h (by omega)
  exact key 0 (Nat.zero_le _) f (fun q => absurd q (Nat.not_lt_zero _))
theorem zsum_0 {B : Nat → Int32} {n : Nat} (h : ∀ j, j < n → B j = 0) : ∀ k, k ≤ n → ∀ s, zfor (fun p s => s + B p) n k s = s := by
  refine zloop n (fun k hk ih s => ?_)
  rcases Nat.eq_or_lt_of_le hk with rfl | hlt
  · rw [zfor_end (Nat.le_refl _)]
  · rw [zfor_step hlt, ih hlt, h k hlt]; simp
/-- where a star lies is a place -/
theorem zPlace_in {V : Nat → Nat → Int32} {ns nt nh k : Nat} (hB : zBd V ns nt nh) (hk : k < ns) : ∃ j, j < 24 ∧ zPlace V k = nI j := by
  have b0 := zBd_at hB 0 (by decide) rfl hk
  have b2 := zBd_at hB 2 (by decide) rfl hk
  have c1 : (0 : Int32) ≤ V 3 k := b0.1
  have c2 : V 3 k ≤ 47 := b0.2
  have c3 : (0 : Int32) ≤ V 5 k := b2.1
  have c4 : V 5 k ≤ 9 := b2.2
  obtain ⟨c, hc, ec⟩ := zn1 (x := V 3 k) (n := 48) (by omega) c1 (by have : nI 48 = 48 := rfl; grind)
  obtain ⟨s, hs, es⟩ := zn1 (x := V 5 k) (n := 10) (by omega) c3 (by have : nI 10 = 10 := rfl; grind)
  refine ⟨(3 * (c % 8) + s) % 24, Nat.mod_lt _ (by decide), ?_⟩
  unfold zPlace
  dsimp only
  rw [ec, es, show nI c - nI c / 8 * 8 = nI (c % 8) from pk_rem (by omega) (by decide) (by decide), show (3 : Int32) * nI (c % 8) = nI (3 * (c % 8)) from pk_mul 3 (c % 8), nI_add]
  exact pk_rem (by omega) (by decide) (by decide)
theorem zbright_in {V : Nat → Nat → Int32} {ns nt nh k : Nat} (hB : zBd V ns nt nh) (hk : k < ns) : ∃ j, j < 10 ∧ V 4 k = nI j := by
  have b1 := zBd_at hB 1 (by decide) rfl hk
  have c1 : (1 : Int32) ≤ V 4 k := b1.1
  have c2 : V 4 k ≤ 9 := b1.2
  exact zn1 (by omega) (by grind) (by have : nI 10 = 10 := rfl; grind)
theorem zSumB_br {V : Nat → Nat → Int32} {ns nt nh a b : Nat} (hB : zBd V ns nt nh) (ha : a ≤ min (b + 1) 24) (hb : b < 100) : zSumB (zSpr V ns) a b = yBr V ns (nI a) (nI b) := by
  have key : ∀ k, k ≤ ns → ∀ f, zSumB (zfor (zSprS V) ns k f) a b = zfor (fun k s => if V 7 k = 1 ∧ (nI a ≤ zPlace V k ∧ zPlace V k ≤ nI b) then s + V 4 k else s) ns k (zSumB f a b) := by
    refine zloop ns (fun k hk ih f => ?_)
    rcases Nat.eq_or_lt_of_le hk with rfl | hlt
    · rw [zfor_end (Nat.le_refl _), zfor_end (Nat.le_refl _)]
    · rw [zfor_step hlt, zfor_step hlt, ih hlt]
      congr 1
      obtain ⟨j, hj, ej⟩ := zPlace_in hB hlt
      have e1 : ¬ nI j < 0 := nI_pos (by omega)
      have e2 : ¬ (24 : Int32) ≤ nI j := nI_ge (b := 24) hj (by decide)
      unfold zSprS
      rw [ej, zcl_n (by omega)]
      rcases zb_up hB k with u | u
      · rw [u, if_pos (Or.inl rfl), if_neg (fun z => absurd z.1 (by decide))]
      · rw [u, if_neg (fun z => z.elim (by decide) (fun z => z.elim e1 e2)), zSumB_up ha hj]
        by_cases c : a ≤ j ∧ j ≤ b
        · rw [if_pos c, if_pos ⟨rfl, (nI_leI (by omega) (by omega)).mpr c.1, (nI_leI (by omega) (by omega)).mpr c.2⟩]
        · rw [if_neg c, if_neg (fun z => c ⟨(nI_leI (by omega) (by omega)).mp z.2.1, (nI_leI (by omega) (by omega)).mp z.2.2⟩)]
          simp
  unfold zSpr yBr
  rw [key 0 (Nat.zero_le _)]
  congr 1
  exact zsum_0 (fun j hj => zZero32_at _ _ _ (by omega)) a ha 0
/-- farther shows no less -/
theorem yBr_mono {V : Nat → Nat → Int32} {ns nt nh a b b' : Nat} (hB : zBd V ns nt nh) (hs : ns ≤ 10) (hbb : b ≤ b') (hb' : b' < 100) : ∃ x y : Nat, x ≤ y ∧ y ≤ 90 ∧ yBr V ns (nI a) (nI b) = nI x ∧ yBr V ns (nI a) (nI b') = nI y := by
  have key : ∀ k, k ≤ ns → ∀ x y : Nat, x ≤ y → y ≤ 9 * k → ∃ x' y' : Nat, x' ≤ y' ∧ y' ≤ 9 * ns ∧ zfor (fun k s => if V 7 k = 1 ∧ (nI a ≤ zPlace V k ∧ zPlace V k ≤ nI b) then s + V 4 k else s) ns k (nI x) = nI x' ∧ zfor (fun k s => if V 7 k = 1 ∧ (nI a ≤ zPlace V k ∧ zPlace V k ≤ nI b') then s + V 4 k else s) ns k (nI y) = nI y' := by
    refine zloop ns (fun k hk ih x y hxy hy => ?_)
    rcases Nat.eq_or_lt_of_le hk with rfl | hlt
    · exact ⟨x, y, hxy, hy, zfor_end (Nat.le_refl _), zfor_end (Nat.le_refl _)⟩
    · obtain ⟨j, hj, ej⟩ := zPlace_in hB hlt
      obtain ⟨v, hv, ev⟩ := zbright_in hB hlt
      rw [zfor_step hlt, zfor_step hlt, ej, ev]
      by_cases c : V 7 k = 1 ∧ (nI a ≤ nI j ∧ nI j ≤ nI b)
      · rw [if_pos c, if_pos ⟨c.1, c.2.1, (nI_leI (by omega) (by omega)).mpr (Nat.le_trans ((nI_leI (by omega) (by omega)).mp c.2.2) hbb)⟩, nI_add, nI_add]
        exact ih hlt (x + v) (y + v) (by omega) (by omega)
      · rw [if_neg c]
        by_cases c2 : V 7 k = 1 ∧ (nI a ≤ nI j ∧ nI j ≤ nI b')
        · rw [if_pos c2, nI_add]
          exact ih hlt x (y + v) (by omega) (by omega)
        · rw [if_neg c2]
          exact ih hlt x y hxy (by omega)
  obtain ⟨x, y, h1, h2, h3, h4⟩ := key 0 (Nat.zero_le _) 0 0 (Nat.le_refl _) (Nat.le_refl _)
  exact ⟨x, y, h1, by omega, h3, h4⟩
def yWkI (S : Nat → Int32) (a t : Nat) (b : Nat) (s : Int32 × Int32) : Int32 × Int32 := if (if a < b then 2 * a + b else a + 2 * b) ≤ t ∧ s.1 < S b then (S b, nI a) else s
def yWkO (T : Nat → Nat → Int32) (p t : Nat) (a : Nat) (s : Int32 × Int32) : Int32 × Int32 := zfor (yWkI (fun b => T (p - a) (p + b)) a t) (24 - p) 0 s
def yWalk (T : Nat → Nat → Int32) (p t : Nat) : Int32 × Int32 := zfor (yWkO T p t) (p + 1) 0 (-1, 0)
theorem yWk_in {S : Nat → Int32} {a t n : Nat} (hS : ∀ i j, i ≤ j → j < n → S i ≤ S j) (hn : 0 < n) (hat : a ≤ t) (s : Int32 × Int32) : zfor (yWkI S a t) n 0 s = if s.1 < S (min (zFar a t) (n - 1)) then (S (min (zFar a t) (n - 1)), nI a) else s := by
  have feas : ∀ b, (if a < b then 2 * a + b else a + 2 * b) ≤ t ↔ b ≤ zFar a t := by
    intro b
    unfold zFar
    split <;> omega
  have key : ∀ k, k ≤ n → 0 < k → ∀ s', s' = (if s.1 < S (min (zFar a t) (k - 1)) then (S (min (zFar a t) (k - 1)), nI a) else s) → zfor (yWkI S a t) n k s' = if s.1 < S (min (zFar a t) (n - 1)) then (S (min (zFar a t) (n - 1)), nI a) else s := by
    refine zloop n (fun k hk ih hp s' es => ?_)
    rcases Nat.eq_or_lt_of_le hk with rfl | hlt
    · rw [zfor_end (Nat.le_refl _)]; exact es
    · rw [zfor_step hlt]
      refine ih hlt (Nat.succ_pos k) _ ?_
      rw [Nat.add_sub_cancel]
      unfold yWkI
      by_cases f : k ≤ zFar a t
      · have m1 : min (zFar a t) k = k := by omega
        have m2 : min (zFar a t) (k - 1) = k - 1 := by omega
        have mo := hS (k - 1) k (by omega) hlt
        rw [m2] at es
        rw [m1]
        subst es
        by_cases c : s.1 < S (k - 1)
        · rw [if_pos c, if_pos (show s.1 < S k by grind)]
          dsimp only
          by_cases c2 : S (k - 1) < S k
          · rw [if_pos ⟨(feas k).mpr f, c2⟩]
          · rw [if_neg (fun z => c2 z.2)]
            rw [show S (k - 1) = S k by grind]
        · rw [if_neg c]
          by_cases c2 : s.1 < S k
          · rw [if_pos ⟨(feas k).mpr f, c2⟩, if_pos c2]
          · rw [if_neg (fun z => c2 z.2), if_neg c2]
      · rw [if_neg (fun z => f ((feas k).mp z.1)), es, show min (zFar a t) k = min (zFar a t) (k - 1) by omega]
  rw [zfor_step hn]
  refine key 1 hn Nat.one_pos _ ?_
  unfold yWkI
  rw [show min (zFar a t) (1 - 1) = 0 by omega]
  by_cases c : s.1 < S 0
  · rw [if_pos ⟨(feas 0).mpr (Nat.zero_le _), c⟩, if_pos c]
  · rw [if_neg (fun z => c z.2), if_neg c]
theorem zWalk_eq {V : Nat → Nat → Int32} {ns nt nh p t : Nat} (hB : zBd V ns nt nh) (hs : ns ≤ 10) (hp : p < 24) (ht : t ≤ 40) : zWalk (zSpr V ns) p t = yWalk (fun x y => yBr V ns (nI x) (nI y)) p t := by
  unfold zWalk yWalk
  rw [zfor_split (f := yWkO (fun x y => yBr V ns (nI x) (nI y)) p t) (m := p + 1) (n := min p t + 1) (by omega) 0 (Nat.zero_le _), zfor_id (f := yWkO (fun x y => yBr V ns (nI x) (nI y)) p t) (by omega) (fun a s h1 h2 => ?_)]
  · refine zfor_congr (fun a s _ ha => ?_)
    have hn : 0 < 24 - p := by omega
    unfold yWkO
    rw [yWk_in (fun i j hij hj => ?_) hn (by omega) s]
    · unfold zWalkS
      have hf : zFar a t ≤ 40 := by unfold zFar; omega
      have e : zSumB (zSpr V ns) (p - a) (p + zFar a t) = yBr V ns (nI (p - a)) (nI (p + min (zFar a t) (24 - p - 1))) := by
        have e1 : zSumB (zSpr V ns) (p - a) (p + zFar a t) = zSumB (zSpr V ns) (p - a) (p + min (zFar a t) (24 - p - 1)) := by
          unfold zSumB
          congr 1
          omega
        rw [e1, zSumB_br hB (by omega) (by omega)]
      rw [e]
    · obtain ⟨x, y, h1, h2, h3, h4⟩ := yBr_mono (V := V) (a := p - a) (b := p + i) (b' := p + j) hB hs (by omega) (by omega)
      show yBr V ns (nI (p - a)) (nI (p + i)) ≤ yBr V ns (nI (p - a)) (nI (p + j))
      rw [h3, h4]
      exact nI_le h1 (by omega)
  · unfold yWkO
    refine zfor_id (Nat.zero_le _) (fun b s _ _ => ?_) s
    unfold yWkI
    rw [if_neg (fun z => ?_)]
    have := z.1
    split at this <;> omega
section S56
variable {g : zG} {l : Launch} {d : Nat} {I V : Nat → Nat → Int32} {L K : Nat → Nat → Int64} {fs : Nat × Nat × Option Nat} {ns nt nh nb : Nat} {pg : Option (List zLine)}
theorem sp_X12_walk (hd : 4 ≤ d) (hM : zMs I V) (hK : zSky V ns nt nh) (hB : zBd V ns nt nh) {p t w0 : Int32} : zPure g l d m_X12_walk [.ref 64, .int p, .int t, .int w0] I L fs (.int (if ¬ ((0 ≤ p ∧ p < 24) ∧ (0 ≤ t ∧ t ≤ 40) ∧ 0 ≤ w0 ∧ w0 ≤ 1) then -1 else if w0 = 0 then (zWalk (zSpr V ns) p.toNatClampNeg t.toNatClampNeg).1 else (zWalk (zSpr V ns) p.toNatClampNeg t.toNatClampNeg).2)) := by
  have hs := hK.2.1
  rcases Decidable.em ((0 ≤ p ∧ p < 24) ∧ (0 ≤ t ∧ t ≤ 40) ∧ 0 ≤ w0 ∧ w0 ≤ 1) with hc | hc
  · obtain ⟨j, hj, rfl⟩ := zn1 (x := p) (n := 24) (by omega) hc.1.1 hc.1.2
    obtain ⟨k, hk, rfl⟩ := zn1 (x := t) (n := 41) (by omega) hc.2.1.1 (by have := hc.2.1.2; have e41 : nI 41 = 41 := rfl; grind)
    rw [if_neg (fun z => z hc), zcl_n (by omega), zcl_n (by omega), zWalk_eq hB hs hj (by omega)]
    obtain ⟨T, eT⟩ : ∃ T : Nat → Nat → Int32, T = fun x y => yBr V ns (nI x) (nI y) := ⟨_, rfl⟩
    obtain ⟨A, eA⟩ : ∃ A, A = yWalk T j k := ⟨_, rfl⟩
    rw [← eT, ← eA]
    have outer : ∀ a, a ≤ j + 1 → ∀ s : Int32 × Int32, zfor (yWkO T j k) (j + 1) a s = A → zA g l d m_X12_walk I L fs 40 [(6, .int (nI a)), (5, .int s.2), (4, .int s.1), (0, .ref 64), (1, .int (nI j)), (2, .int (nI k)), (3, .int w0)] (zP (.int (if w0 = 0 then A.1 else A.2)) (zU I L fs)) := by
      refine zloop (j + 1) (fun a ha ih s hx => ?_)
      have inner : a < j + 1 → ∀ b, b ≤ 24 - j → ∀ s : Int32 × Int32, zfor (yWkO T j k) (j + 1) (a + 1) (zfor (yWkI (fun b => T (j - a) (j + b)) a k) (24 - j) b s) = A → zA g l d m_X12_walk I L fs 49 [(7, .int (nI b)), (6, .int (nI a)), (5, .int s.2), (4, .int s.1), (0, .ref 64), (1, .int (nI j)), (2, .int (nI k)), (3, .int w0)] (zP (.int (if w0 = 0 then A.1 else A.2)) (zU I L fs)) := by
        intro hlt
        refine zloop (24 - j) (fun b hb ih2 s hx => ?_)
        have eb : nI j + nI b = nI (j + b) := nI_add _ _
        have e2a : (2 : Int32) * nI a + nI b = nI (2 * a + b) := by rw [show (2 : Int32) * nI a = nI (2 * a) from pk_mul 2 a, nI_add]
        have e2b : nI a + (2 : Int32) * nI b = nI (a + 2 * b) := by rw [show (2 : Int32) * nI b = nI (2 * b) from pk_mul 2 b, nI_add]
        refine zIloadN d_X12_walk_49 rfl rfl (q := 50) rfl ?_
        refine zIload d_X12_walk_50 rfl (q := 52) rfl ?_
        refine zIadd d_X12_walk_52 (q := 53) rfl ?_
        rw [eb]
        refine zBipush d_X12_walk_53 (v := 24) bc_24 (q := 55) rfl ?_
        refine zIcmp_ge d_X12_walk_55 (tgt := 131) (q := 58) (by decide) rfl (fun h55 => ?_) (fun h55 => ?_)
        · have e : b = 24 - j := by have := nle (b := 24) h55; omega
          rw [zfor_end (n := 24 - j) (by omega)] at hx
          refine zIinc d_X12_walk_131 rfl (zinc _) (by decide) rfl (q := 134) rfl ?_
          refine zGoto d_X12_walk_134 (q := 40) (by decide) ?_
          refine zSub [0, 2, 3, 4, 5, 6, 7] rfl ?_
          exact ih hlt s hx
        · have hb2 : b < 24 - j := by have := nnle (b := 24) h55; omega
          rw [zfor_step (n := 24 - j) hb2] at hx
          refine zIload d_X12_walk_58 rfl (q := 60) rfl ?_
          refine zIload d_X12_walk_60 rfl (q := 62) rfl ?_
          refine zIcmp_ge d_X12_walk_62 (tgt := 75) (q := 65) (by decide) rfl (fun h62 => ?_) (fun h62 => ?_)
          · have est : (if a < b then 2 * a + b else a + 2 * b) = a + 2 * b := if_neg (Nat.not_lt.mpr (nle h62))
            refine zIload d_X12_walk_75 rfl (q := 77) rfl ?_
            refine zIconst d_X12_walk_77 (v := 2) ic_2 (q := 78) rfl ?_
            refine zIload d_X12_walk_78 rfl (q := 80) rfl ?_
            refine zImul d_X12_walk_80 (q := 81) rfl ?_
            refine zIadd d_X12_walk_81 (q := 82) rfl ?_
            try rw [e2b]
            refine zIstore d_X12_walk_82 (by decide) rfl (q := 84) rfl ?_
            refine zIload d_X12_walk_84 rfl (q := 86) rfl ?_
            refine zIloadN d_X12_walk_86 rfl rfl (q := 87) rfl ?_
            refine zIcmp_le d_X12_walk_87 (tgt := 93) (q := 90) (by decide) rfl (fun h87 => ?_) (fun h87 => ?_)
            · have hle := nle h87
              refine zAloadN d_X12_walk_93 rfl rfl (q := 94) rfl ?_
              refine zIloadN d_X12_walk_94 rfl rfl (q := 95) rfl ?_
              refine zIload d_X12_walk_95 rfl (q := 97) rfl ?_
              refine zIsub d_X12_walk_97 (q := 98) rfl ?_
              rw [pk_sub (show a ≤ j by omega)]
              refine zIloadN d_X12_walk_98 rfl rfl (q := 99) rfl ?_
              refine zIload d_X12_walk_99 rfl (q := 101) rfl ?_
              refine zIadd d_X12_walk_101 (q := 102) rfl ?_
              rw [eb]
              refine zCallVP d_X12_walk_102 ml_X12_318 k_X12_brightIn ki_X12_brightIn ks_X12_brightIn (sp_X12_brightIn (d := d - 1) (by omega) hM hK) rfl rfl sh_64 (by decide) rfl (by decide) (Nat.le_of_ble_eq_true rfl) (by decide) (by omega) zns100 (q := 105) rfl ?_
              rw [show yBr V ns (nI (j - a)) (nI (j + b)) = T (j - a) (j + b) from by rw [eT]]
              refine zIstore d_X12_walk_105 (by decide) rfl (q := 107) rfl ?_
              refine zIload d_X12_walk_107 rfl (q := 109) rfl ?_
              refine zIload d_X12_walk_109 rfl (q := 111) rfl ?_
              refine zIcmp_gt d_X12_walk_111 (tgt := 117) (q := 114) (by decide) rfl (fun h111 => ?_) (fun h111 => ?_)
              · have hst : yWkI (fun b => T (j - a) (j + b)) a k b s = (T (j - a) (j + b), nI a) := if_pos ⟨by rw [est]; exact hle, by grind⟩
                refine zIload d_X12_walk_117 rfl (q := 119) rfl ?_
                refine zIstore d_X12_walk_119 (by decide) rfl (q := 121) rfl ?_
                refine zIload d_X12_walk_121 rfl (q := 123) rfl ?_
                refine zIstore d_X12_walk_123 (by decide) rfl (q := 125) rfl ?_
                refine zIinc d_X12_walk_125 rfl (zinc _) (by decide) rfl (q := 128) rfl ?_
                refine zGoto d_X12_walk_128 (q := 49) (by decide) ?_
                refine zSub [0, 5, 1, 2, 6, 7, 8, 9] rfl ?_
                first
                | exact ih2 hb2 s (by rw [← hx, hst])
                | exact ih2 hb2 (T (j - a) (j + b), nI a) (by rw [← hx, hst])
              · have hst : yWkI (fun b => T (j - a) (j + b)) a k b s = s := if_neg (fun z => Int32.not_le.mpr z.2 (by grind))
                refine zGoto d_X12_walk_114 (q := 125) (by decide) ?_
                refine zIinc d_X12_walk_125 rfl (zinc _) (by decide) rfl (q := 128) rfl ?_
                refine zGoto d_X12_walk_128 (q := 49) (by decide) ?_
                refine zSub [0, 3, 4, 5, 6, 7, 8, 9] rfl ?_
                first
                | exact ih2 hb2 s (by rw [← hx, hst])
                | exact ih2 hb2 (T (j - a) (j + b), nI a) (by rw [← hx, hst])
            · have hst : yWkI (fun b => T (j - a) (j + b)) a k b s = s := if_neg (fun z => by have := z.1; rw [est] at this; exact h87 ((nI_leI (by omega) (by omega)).mpr this))
              refine zGoto d_X12_walk_90 (q := 125) (by decide) ?_
              refine zIinc d_X12_walk_125 rfl (zinc _) (by decide) rfl (q := 128) rfl ?_
              refine zGoto d_X12_walk_128 (q := 49) (by decide) ?_
              refine zSub [0, 2, 3, 4, 5, 6, 7, 8] rfl ?_
              first
              | exact ih2 hb2 s (by rw [← hx, hst])
              | exact ih2 hb2 (T (j - a) (j + b), nI a) (by rw [← hx, hst])
          · have est : (if a < b then 2 * a + b else a + 2 * b) = 2 * a + b := if_pos (nnle h62)
            refine zIconst d_X12_walk_65 (v := 2) ic_2 (q := 66) rfl ?_
            refine zIload d_X12_walk_66 rfl (q := 68) rfl ?_
            refine zImul d_X12_walk_68 (q := 69) rfl ?_
            refine zIload d_X12_walk_69 rfl (q := 71) rfl ?_
            refine zIadd d_X12_walk_71 (q := 72) rfl ?_
            rw [e2a]
            refine zGoto d_X12_walk_72 (q := 82) (by decide) ?_
            try rw [e2b]
            refine zIstore d_X12_walk_82 (by decide) rfl (q := 84) rfl ?_
            refine zIload d_X12_walk_84 rfl (q := 86) rfl ?_
            refine zIloadN d_X12_walk_86 rfl rfl (q := 87) rfl ?_
            refine zIcmp_le d_X12_walk_87 (tgt := 93) (q := 90) (by decide) rfl (fun h87 => ?_) (fun h87 => ?_)
            · have hle := nle h87
              refine zAloadN d_X12_walk_93 rfl rfl (q := 94) rfl ?_
              refine zIloadN d_X12_walk_94 rfl rfl (q := 95) rfl ?_
              refine zIload d_X12_walk_95 rfl (q := 97) rfl ?_
              refine zIsub d_X12_walk_97 (q := 98) rfl ?_
              rw [pk_sub (show a ≤ j by omega)]
              refine zIloadN d_X12_walk_98 rfl rfl (q := 99) rfl ?_
              refine zIload d_X12_walk_99 rfl (q := 101) rfl ?_
              refine zIadd d_X12_walk_101 (q := 102) rfl ?_
              rw [eb]
              refine zCallVP d_X12_walk_102 ml_X12_318 k_X12_brightIn ki_X12_brightIn ks_X12_brightIn (sp_X12_brightIn (d := d - 1) (by omega) hM hK) rfl rfl sh_64 (by decide) rfl (by decide) (Nat.le_of_ble_eq_true rfl) (by decide) (by omega) zns100 (q := 105) rfl ?_
              rw [show yBr V ns (nI (j - a)) (nI (j + b)) = T (j - a) (j + b) from by rw [eT]]
              refine zIstore d_X12_walk_105 (by decide) rfl (q := 107) rfl ?_
              refine zIload d_X12_walk_107 rfl (q := 109) rfl ?_
              refine zIload d_X12_walk_109 rfl (q := 111) rfl ?_
              refine zIcmp_gt d_X12_walk_111 (tgt := 117) (q := 114) (by decide) rfl (fun h111 => ?_) (fun h111 => ?_)
              · have hst : yWkI (fun b => T (j - a) (j + b)) a k b s = (T (j - a) (j + b), nI a) := if_pos ⟨by rw [est]; exact hle, by grind⟩
                refine zIload d_X12_walk_117 rfl (q := 119) rfl ?_
                refine zIstore d_X12_walk_119 (by decide) rfl (q := 121) rfl ?_
                refine zIload d_X12_walk_121 rfl (q := 123) rfl ?_
                refine zIstore d_X12_walk_123 (by decide) rfl (q := 125) rfl ?_
                refine zIinc d_X12_walk_125 rfl (zinc _) (by decide) rfl (q := 128) rfl ?_
                refine zGoto d_X12_walk_128 (q := 49) (by decide) ?_
                refine zSub [0, 5, 1, 2, 6, 7, 8, 9] rfl ?_
                first
                | exact ih2 hb2 s (by rw [← hx, hst])
                | exact ih2 hb2 (T (j - a) (j + b), nI a) (by rw [← hx, hst])
              · have hst : yWkI (fun b => T (j - a) (j + b)) a k b s = s := if_neg (fun z => Int32.not_le.mpr z.2 (by grind))
                refine zGoto d_X12_walk_114 (q := 125) (by decide) ?_
                refine zIinc d_X12_walk_125 rfl (zinc _) (by decide) rfl (q := 128) rfl ?_
                refine zGoto d_X12_walk_128 (q := 49) (by decide) ?_
                refine zSub [0, 3, 4, 5, 6, 7, 8, 9] rfl ?_
                first
                | exact ih2 hb2 s (by rw [← hx, hst])
                | exact ih2 hb2 (T (j - a) (j + b), nI a) (by rw [← hx, hst])
            · have hst : yWkI (fun b => T (j - a) (j + b)) a k b s = s := if_neg (fun z => by have := z.1; rw [est] at this; exact h87 ((nI_leI (by omega) (by omega)).mpr this))
              refine zGoto d_X12_walk_90 (q := 125) (by decide) ?_
              refine zIinc d_X12_walk_125 rfl (zinc _) (by decide) rfl (q := 128) rfl ?_
              refine zGoto d_X12_walk_128 (q := 49) (by decide) ?_
              refine zSub [0, 2, 3, 4, 5, 6, 7, 8] rfl ?_
              first
              | exact ih2 hb2 s (by rw [← hx, hst])
              | exact ih2 hb2 (T (j - a) (j + b), nI a) (by rw [← hx, hst])
      refine zIload d_X12_walk_40 rfl (q := 42) rfl ?_
      refine zIloadN d_X12_walk_42 rfl rfl (q := 43) rfl ?_
      refine zIcmp_gt d_X12_walk_43 (tgt := 137) (q := 46) (by decide) rfl (fun h43 => ?_) (fun h43 => ?_)
      · have e : a = j + 1 := by have := nlt h43; omega
        rw [zfor_end (by omega)] at hx
        subst hx
        refine zIloadN d_X12_walk_137 rfl rfl (q := 138) rfl ?_
        refine zIf_ne d_X12_walk_138 (tgt := 146) (q := 141) (by decide) rfl (fun h138 => ?_) (fun h138 => ?_)
        · refine zIload d_X12_walk_146 rfl (q := 148) rfl ?_
          refine zIret d_X12_walk_148 rfl rfl rfl ?_
          first | exact zPi (if_pos h138).symm | exact zPi (if_neg h138).symm
        · refine zIload d_X12_walk_141 rfl (q := 143) rfl ?_
          refine zGoto d_X12_walk_143 (q := 148) (by decide) ?_
          refine zIret d_X12_walk_148 rfl rfl rfl ?_
          first | exact zPi (if_pos h138).symm | exact zPi (if_neg h138).symm
      · have hlt : a < j + 1 := by have := nnlt h43; omega
        rw [zfor_step hlt] at hx
        refine zIconst d_X12_walk_46 (v := 0) ic_0 (q := 47) rfl ?_
        refine zIstore d_X12_walk_47 (by decide) rfl (q := 49) rfl ?_
        refine zSub [0, 1, 2, 3, 4, 5, 6, 7] rfl ?_
        exact inner hlt 0 (Nat.zero_le _) s hx
    refine zSp_of (lv := [(0, .ref 64), (1, .int (nI j)), (2, .int (nI k)), (3, .int w0)]) k_X12_walk rfl (Nat.le_of_ble_eq_true rfl) ?_
    refine zIloadN d_X12_walk_0 rfl rfl (q := 1) rfl ?_
    refine zIconst d_X12_walk_1 (v := 0) ic_0 (q := 2) rfl ?_
    refine zBipush d_X12_walk_2 (v := 23) bc_23 (q := 4) rfl ?_
    refine zCallSP d_X12_walk_4 ml_X12_127 k_X12_in kt_X12_in (sp_X12_in (d := d - 1) (by omega) ) rfl rfl (Nat.le_of_ble_eq_true rfl) (by decide) (by omega) zns100 (q := 7) rfl ?_
    refine zIf_eq d_X12_walk_7 (tgt := 29) (q := 10) (by decide) rfl (fun h => absurd h (bi_n0.mpr ⟨hc.1.1, by have := hc.1.2; grind⟩)) (fun h7 => ?_)
    refine zIloadN d_X12_walk_10 rfl rfl (q := 11) rfl ?_
    refine zIconst d_X12_walk_11 (v := 0) ic_0 (q := 12) rfl ?_
    refine zBipush d_X12_walk_12 (v := 40) bc_40 (q := 14) rfl ?_
    refine zCallSP d_X12_walk_14 ml_X12_127 k_X12_in kt_X12_in (sp_X12_in (d := d - 1) (by omega) ) rfl rfl (Nat.le_of_ble_eq_true rfl) (by decide) (by omega) zns100 (q := 17) rfl ?_
    refine zIf_eq d_X12_walk_17 (tgt := 29) (q := 20) (by decide) rfl (fun h => absurd h (bi_n0.mpr hc.2.1)) (fun h17 => ?_)
    refine zIloadN d_X12_walk_20 rfl rfl (q := 21) rfl ?_
    refine zIconst d_X12_walk_21 (v := 0) ic_0 (q := 22) rfl ?_
    refine zIconst d_X12_walk_22 (v := 1) ic_1 (q := 23) rfl ?_
    refine zCallSP d_X12_walk_23 ml_X12_127 k_X12_in kt_X12_in (sp_X12_in (d := d - 1) (by omega) ) rfl rfl (Nat.le_of_ble_eq_true rfl) (by decide) (by omega) zns100 (q := 26) rfl ?_
    refine zIf_ne d_X12_walk_26 (tgt := 31) (q := 29) (by decide) rfl (fun h26 => ?_) (fun h => absurd h (fun z => bi_0.mp z hc.2.2))
    refine zIconst d_X12_walk_31 (v := -1) ic_m1 (q := 32) rfl ?_
    refine zIstore d_X12_walk_32 (by decide) rfl (q := 34) rfl ?_
    refine zIconst d_X12_walk_34 (v := 0) ic_0 (q := 35) rfl ?_
    refine zIstore d_X12_walk_35 (by decide) rfl (q := 37) rfl ?_
    refine zIconst d_X12_walk_37 (v := 0) ic_0 (q := 38) rfl ?_
    refine zIstore d_X12_walk_38 (by decide) rfl (q := 40) rfl ?_
    refine zSub [0, 1, 2, 3, 4, 5, 6] rfl ?_
    exact outer 0 (Nat.zero_le _) (-1, 0) eA.symm
  · rw [if_pos hc]
    refine zSp_of (lv := [(0, .ref 64), (1, .int p), (2, .int t), (3, .int w0)]) k_X12_walk rfl (Nat.le_of_ble_eq_true rfl) ?_
    refine zIloadN d_X12_walk_0 rfl rfl (q := 1) rfl ?_
    refine zIconst d_X12_walk_1 (v := 0) ic_0 (q := 2) rfl ?_
    refine zBipush d_X12_walk_2 (v := 23) bc_23 (q := 4) rfl ?_
    refine zCallSP d_X12_walk_4 ml_X12_127 k_X12_in kt_X12_in (sp_X12_in (d := d - 1) (by omega) ) rfl rfl (Nat.le_of_ble_eq_true rfl) (by decide) (by omega) zns100 (q := 7) rfl ?_
    refine zIf_eq d_X12_walk_7 (tgt := 29) (q := 10) (by decide) rfl (fun h7 => ?_) (fun h7 => ?_)
    · refine zIconst d_X12_walk_29 (v := -1) ic_m1 (q := 30) rfl ?_
      refine zIret d_X12_walk_30 rfl rfl rfl ?_
      exact zPi rfl
    · refine zIloadN d_X12_walk_10 rfl rfl (q := 11) rfl ?_
      refine zIconst d_X12_walk_11 (v := 0) ic_0 (q := 12) rfl ?_
      refine zBipush d_X12_walk_12 (v := 40) bc_40 (q := 14) rfl ?_
      refine zCallSP d_X12_walk_14 ml_X12_127 k_X12_in kt_X12_in (sp_X12_in (d := d - 1) (by omega) ) rfl rfl (Nat.le_of_ble_eq_true rfl) (by decide) (by omega) zns100 (q := 17) rfl ?_
      refine zIf_eq d_X12_walk_17 (tgt := 29) (q := 20) (by decide) rfl (fun h17 => ?_) (fun h17 => ?_)
      · refine zIconst d_X12_walk_29 (v := -1) ic_m1 (q := 30) rfl ?_
        refine zIret d_X12_walk_30 rfl rfl rfl ?_
        exact zPi rfl
      · refine zIloadN d_X12_walk_20 rfl rfl (q := 21) rfl ?_
        refine zIconst d_X12_walk_21 (v := 0) ic_0 (q := 22) rfl ?_
        refine zIconst d_X12_walk_22 (v := 1) ic_1 (q := 23) rfl ?_
        refine zCallSP d_X12_walk_23 ml_X12_127 k_X12_in kt_X12_in (sp_X12_in (d := d - 1) (by omega) ) rfl rfl (Nat.le_of_ble_eq_true rfl) (by decide) (by omega) zns100 (q := 26) rfl ?_
        refine zIf_ne d_X12_walk_26 (tgt := 31) (q := 29) (by decide) rfl (fun h => absurd h (not_not_intro (bi_f (fun z => hc ⟨⟨(bi_n0.mp h7).1, by have := (bi_n0.mp h7).2; grind⟩, bi_n0.mp h17, z⟩)))) (fun h26 => ?_)
        refine zIconst d_X12_walk_29 (v := -1) ic_m1 (q := 30) rfl ?_
        refine zIret d_X12_walk_30 rfl rfl rfl ?_
        exact zPi rfl
end S56

