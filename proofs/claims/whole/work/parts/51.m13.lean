theorem d_X12_fewest_0 : decode (zmc m_X12_fewest) 0 = .ok (.iload_n 1, 1) := by decide +kernel
theorem d_X12_fewest_1 : decode (zmc m_X12_fewest) 1 = .ok (.iconst 0, 1) := by decide +kernel
theorem d_X12_fewest_2 : decode (zmc m_X12_fewest) 2 = .ok (.iconst 3, 1) := by decide +kernel
theorem d_X12_fewest_3 : decode (zmc m_X12_fewest) 3 = .ok (.invokestatic 127, 3) := by decide +kernel
theorem d_X12_fewest_6 : decode (zmc m_X12_fewest) 6 = .ok (.ifCond .ne 5, 3) := by decide +kernel
theorem d_X12_fewest_9 : decode (zmc m_X12_fewest) 9 = .ok (.iconst (-1), 1) := by decide +kernel
theorem d_X12_fewest_10 : decode (zmc m_X12_fewest) 10 = .ok (.ireturn, 1) := by decide +kernel
theorem d_X12_fewest_11 : decode (zmc m_X12_fewest) 11 = .ok (.aload_n 0, 1) := by decide +kernel
theorem d_X12_fewest_12 : decode (zmc m_X12_fewest) 12 = .ok (.invokevirtual 333, 3) := by decide +kernel
theorem d_X12_fewest_15 : decode (zmc m_X12_fewest) 15 = .ok (.istore_n 2, 1) := by decide +kernel
theorem d_X12_fewest_16 : decode (zmc m_X12_fewest) 16 = .ok (.bipush (-2), 2) := by decide +kernel
theorem d_X12_fewest_18 : decode (zmc m_X12_fewest) 18 = .ok (.istore_n 3, 1) := by decide +kernel
theorem d_X12_fewest_19 : decode (zmc m_X12_fewest) 19 = .ok (.iconst 0, 1) := by decide +kernel
theorem d_X12_fewest_20 : decode (zmc m_X12_fewest) 20 = .ok (.istore 4, 2) := by decide +kernel
theorem d_X12_fewest_22 : decode (zmc m_X12_fewest) 22 = .ok (.iload 4, 2) := by decide +kernel
theorem d_X12_fewest_24 : decode (zmc m_X12_fewest) 24 = .ok (.iconst 1, 1) := by decide +kernel
theorem d_X12_fewest_25 : decode (zmc m_X12_fewest) 25 = .ok (.aload_n 0, 1) := by decide +kernel
theorem d_X12_fewest_26 : decode (zmc m_X12_fewest) 26 = .ok (.getfield 124, 3) := by decide +kernel
theorem d_X12_fewest_29 : decode (zmc m_X12_fewest) 29 = .ok (.ishl, 1) := by decide +kernel
theorem d_X12_fewest_30 : decode (zmc m_X12_fewest) 30 = .ok (.if_icmp .ge 66, 3) := by decide +kernel
theorem d_X12_fewest_33 : decode (zmc m_X12_fewest) 33 = .ok (.iload 4, 2) := by decide +kernel
theorem d_X12_fewest_35 : decode (zmc m_X12_fewest) 35 = .ok (.iload_n 2, 1) := by decide +kernel
theorem d_X12_fewest_36 : decode (zmc m_X12_fewest) 36 = .ok (.iconst (-1), 1) := by decide +kernel
theorem d_X12_fewest_37 : decode (zmc m_X12_fewest) 37 = .ok (.ixor, 1) := by decide +kernel
theorem d_X12_fewest_38 : decode (zmc m_X12_fewest) 38 = .ok (.iand, 1) := by decide +kernel
theorem d_X12_fewest_39 : decode (zmc m_X12_fewest) 39 = .ok (.ifCond .ne 51, 3) := by decide +kernel
theorem d_X12_fewest_42 : decode (zmc m_X12_fewest) 42 = .ok (.iload_n 3, 1) := by decide +kernel
theorem d_X12_fewest_43 : decode (zmc m_X12_fewest) 43 = .ok (.ifCond .lt 18, 3) := by decide +kernel
theorem d_X12_fewest_46 : decode (zmc m_X12_fewest) 46 = .ok (.iload 4, 2) := by decide +kernel
theorem d_X12_fewest_48 : decode (zmc m_X12_fewest) 48 = .ok (.invokestatic 312, 3) := by decide +kernel
theorem d_X12_fewest_51 : decode (zmc m_X12_fewest) 51 = .ok (.iload_n 3, 1) := by decide +kernel
theorem d_X12_fewest_52 : decode (zmc m_X12_fewest) 52 = .ok (.invokestatic 312, 3) := by decide +kernel
theorem d_X12_fewest_55 : decode (zmc m_X12_fewest) 55 = .ok (.if_icmp .lt 6, 3) := by decide +kernel
theorem d_X12_fewest_58 : decode (zmc m_X12_fewest) 58 = .ok (.goto 32, 3) := by decide +kernel
theorem d_X12_fewest_61 : decode (zmc m_X12_fewest) 61 = .ok (.iload_n 1, 1) := by decide +kernel
theorem d_X12_fewest_62 : decode (zmc m_X12_fewest) 62 = .ok (.iconst 2, 1) := by decide +kernel
theorem d_X12_fewest_63 : decode (zmc m_X12_fewest) 63 = .ok (.if_icmp .ge 15, 3) := by decide +kernel
theorem d_X12_fewest_66 : decode (zmc m_X12_fewest) 66 = .ok (.aload_n 0, 1) := by decide +kernel
theorem d_X12_fewest_67 : decode (zmc m_X12_fewest) 67 = .ok (.iload 4, 2) := by decide +kernel
theorem d_X12_fewest_69 : decode (zmc m_X12_fewest) 69 = .ok (.invokevirtual 330, 3) := by decide +kernel
theorem d_X12_fewest_72 : decode (zmc m_X12_fewest) 72 = .ok (.ifCond .eq 18, 3) := by decide +kernel
theorem d_X12_fewest_75 : decode (zmc m_X12_fewest) 75 = .ok (.goto 12, 3) := by decide +kernel
theorem d_X12_fewest_78 : decode (zmc m_X12_fewest) 78 = .ok (.aload_n 0, 1) := by decide +kernel
theorem d_X12_fewest_79 : decode (zmc m_X12_fewest) 79 = .ok (.iload 4, 2) := by decide +kernel
theorem d_X12_fewest_81 : decode (zmc m_X12_fewest) 81 = .ok (.invokevirtual 336, 3) := by decide +kernel
theorem d_X12_fewest_84 : decode (zmc m_X12_fewest) 84 = .ok (.ifCond .eq 6, 3) := by decide +kernel
theorem d_X12_fewest_87 : decode (zmc m_X12_fewest) 87 = .ok (.iload 4, 2) := by decide +kernel
theorem d_X12_fewest_89 : decode (zmc m_X12_fewest) 89 = .ok (.istore_n 3, 1) := by decide +kernel
theorem d_X12_fewest_90 : decode (zmc m_X12_fewest) 90 = .ok (.iinc 4 1, 3) := by decide +kernel
theorem d_X12_fewest_93 : decode (zmc m_X12_fewest) 93 = .ok (.goto (-71), 3) := by decide +kernel
theorem d_X12_fewest_96 : decode (zmc m_X12_fewest) 96 = .ok (.iload_n 3, 1) := by decide +kernel
theorem d_X12_fewest_97 : decode (zmc m_X12_fewest) 97 = .ok (.ifCond .lt 10, 3) := by decide +kernel
theorem d_X12_fewest_100 : decode (zmc m_X12_fewest) 100 = .ok (.iload_n 1, 1) := by decide +kernel
theorem d_X12_fewest_101 : decode (zmc m_X12_fewest) 101 = .ok (.iconst 2, 1) := by decide +kernel
theorem d_X12_fewest_102 : decode (zmc m_X12_fewest) 102 = .ok (.irem, 1) := by decide +kernel
theorem d_X12_fewest_103 : decode (zmc m_X12_fewest) 103 = .ok (.iconst 1, 1) := by decide +kernel
theorem d_X12_fewest_104 : decode (zmc m_X12_fewest) 104 = .ok (.if_icmp .ne 7, 3) := by decide +kernel
theorem d_X12_fewest_107 : decode (zmc m_X12_fewest) 107 = .ok (.iload_n 3, 1) := by decide +kernel
theorem d_X12_fewest_108 : decode (zmc m_X12_fewest) 108 = .ok (.goto 7, 3) := by decide +kernel
theorem d_X12_fewest_111 : decode (zmc m_X12_fewest) 111 = .ok (.iload_n 3, 1) := by decide +kernel
theorem d_X12_fewest_112 : decode (zmc m_X12_fewest) 112 = .ok (.invokestatic 312, 3) := by decide +kernel
theorem d_X12_fewest_115 : decode (zmc m_X12_fewest) 115 = .ok (.ireturn, 1) := by decide +kernel
/-! THE REFERENCE: the fewest stars -/
theorem zrun_all {p : Nat → Bool} {n : Nat} : zrun p n 0 = n ↔ ∀ k, k < n → p k = true := by
  have h := zrun_spec p n 0 (Nat.zero_le _)
  constructor
  · intro e k hk
    exact h.2.2.1 k (Nat.zero_le _) (by omega)
  · intro a
    rcases Nat.eq_or_lt_of_le h.2.1 with e | e
    · exact e
    · exact absurd (a _ e) (h.2.2.2 e)
theorem zfor_split {σ : Type} {f : Nat → σ → σ} {m n : Nat} (h2 : n ≤ m) : ∀ k, k ≤ n → ∀ s, zfor f m k s = zfor f m n (zfor f n k s) := by
  refine zloop n (fun k hk ih s => ?_)
  rcases Nat.eq_or_lt_of_le hk with rfl | hlt
  · rw [zfor_end (n := k) (Nat.le_refl _)]
  · rw [zfor_step (n := m) (by omega), zfor_step (n := n) hlt]
    exact ih hlt _
theorem zfor_id {σ : Type} {f : Nat → σ → σ} {m n : Nat} (h2 : n ≤ m) (h : ∀ k s, n ≤ k → k < m → f k s = s) (s : σ) : zfor f m n s = s := by
  have e : ∀ k, k ≤ m → n ≤ k → zfor f m k s = s := by
    refine zloop m (fun k hk ih hn => ?_)
    rcases Nat.eq_or_lt_of_le hk with rfl | hlt
    · exact zfor_end (Nat.le_refl _)
    · rw [zfor_step hlt, h k s hn hlt]; exact ih hlt (by omega)
  exact e n h2 (Nat.le_refl _)
theorem zfor_rel {σ τ : Type} {f : Nat → σ → σ} {g : Nat → τ → τ} {R : σ → τ → Prop} {n : Nat} (h : ∀ k s t, k < n → R s t → R (f k s) (g k t)) : ∀ k, k ≤ n → ∀ s t, R s t → R (zfor f n k s) (zfor g n k t) := by
  refine zloop n (fun k hk ih s t hr => ?_)
  rcases Nat.eq_or_lt_of_le hk with rfl | hlt
  · rw [zfor_end (Nat.le_refl _), zfor_end (Nat.le_refl _)]; exact hr
  · rw [zfor_step hlt, zfor_step hlt]; exact ih hlt _ _ (h k s t hlt hr)
theorem zN_inj {p p' : Nat → Bool} {n : Nat} (h : zN p n = zN p' n) : ∀ k, k < n → p k = p' k := fun k hk => by
  have := congrArg (fun x => x.testBit k) h
  simp only [zN_bit, decide_eq_true hk, Bool.true_and] at this
  exact this
theorem yAll_iff {V : Nat → Nat → Int32} {nh : Nat} {up : Int32} (hn : nh ≤ 6) : yAll V nh up ↔ ∀ h, h < nh → ¬ V 11 h &&& up = 0 := by
  unfold yAll
  rw [zsteer_N (by omega), zfull (by omega)]
  have l1 := zN_lt (fun k => decide (¬ V 11 k &&& up = 0)) nh
  have l2 := zN_lt (fun _ => true) nh
  have l3 : 2 ^ nh ≤ 2 ^ 6 := Nat.pow_le_pow_right (by decide) hn
  rw [nI_eq (by omega) (by omega)]
  constructor
  · intro e h hh
    have := zN_inj e h hh
    simpa using this
  · intro a
    exact zN_congr (fun k hk => by simpa using a k hk)
set_option maxRecDepth 20000 in
theorem zbc_ge1 : ∀ y, y < 1024 → ((1 : Int32) ≤ zbc (nI y)) = ¬ y = 0 := by
  have h : ∀ y, y < 1024 → decide ((1 : Int32) ≤ zbc (nI y)) = decide (¬ y = 0) := by decide +kernel
  intro y hy
  exact propext (decide_eq_decide.mp (h y hy))
set_option maxRecDepth 20000 in
theorem zbc_ge2 : ∀ y, y < 1024 → ((2 : Int32) ≤ zbc (nI y)) = (¬ y = 0 ∧ ∀ s, s < 10 → ¬ y &&& (2 ^ s ^^^ 4294967295) = 0) := by
  have h : ∀ y, y < 1024 → decide ((2 : Int32) ≤ zbc (nI y)) = decide (¬ y = 0 ∧ ∀ s, s < 10 → ¬ y &&& (2 ^ s ^^^ 4294967295) = 0) := by decide +kernel
  intro y hy
  exact propext (decide_eq_decide.mp (h y hy))
theorem zneeds {V : Nat → Nat → Int32} {ns nt nh : Nat} (hB : zBd V ns nt nh) {h : Nat} (hh : h < nh) : ∃ v, v < 1024 ∧ V 11 h = nI v := by
  have b := zBd_at hB 8 (by decide) rfl hh
  have b1 : (1 : Int32) ≤ V 11 h := b.1
  have b2 : V 11 h ≤ 1023 := b.2
  exact zn1 (by omega) (by grind) (by have : nI 1024 = 1024 := rfl; grind)
theorem zand0 {a b : Nat} (ha : a < 2 ^ 31) : nI a &&& nI b = 0 ↔ a &&& b = 0 := by
  rw [zand, show (0 : Int32) = nI 0 from rfl]
  exact nI_eq (Nat.lt_of_le_of_lt Nat.and_le_left ha) (by decide)
theorem yServ1 {V : Nat → Nat → Int32} {ns nt nh : Nat} (hB : zBd V ns nt nh) (hn : nh ≤ 6) {k : Nat} (hk : k < 1024) : yAll V nh (nI k) ↔ zServ V nh (nI k) 1 := by
  show _ ↔ zrun (fun k' => decide (1 ≤ zbc (V 11 k' &&& nI k))) nh 0 = nh
  rw [yAll_iff hn, zrun_all]
  refine forall_congr' fun h => forall_congr' fun hh => ?_
  obtain ⟨v, hv, e⟩ := zneeds hB hh
  have hl : v &&& k < 1024 := Nat.lt_of_le_of_lt Nat.and_le_left hv
  rw [e, zand0 (by omega), zand, decide_eq_true_eq, zbc_ge1 _ hl]
theorem yServ2 {V : Nat → Nat → Int32} {ns nt nh : Nat} (hB : zBd V ns nt nh) (hs : ns ≤ 10) (hn : nh ≤ 6) {k : Nat} (hk : k < 2 ^ ns) : ySafe V ns nh (nI k) ↔ zServ V nh (nI k) 2 := by
  have h1024 : 2 ^ ns ≤ 2 ^ 10 := Nat.pow_le_pow_right (by decide) hs
  have hk1 : k < 1024 := by omega
  show (zrun (ySfB V nh (nI k)) ns 0 = ns ∧ yAll V nh (nI k)) ↔ zrun (fun k' => decide (2 ≤ zbc (V 11 k' &&& nI k))) nh 0 = nh
  rw [yAll_iff hn, zrun_all, zrun_all]
  have e1 : ∀ s, s < ns → (ySfB V nh (nI k) s = true ↔ (k.testBit s = true → ∀ h, h < nh → ¬ V 11 h &&& nI (k &&& (2 ^ s ^^^ 4294967295)) = 0)) := by
    intro s hs2
    unfold ySfB
    rw [decide_eq_true_eq, zbit_1 (by omega) (by omega), zone (by omega), znot, zand, yAll_iff hn]
    constructor
    · intro q a; exact Decidable.not_not.mp (fun z => q ⟨a, z⟩)
    · intro q a; exact a.2 (q a.1)
  constructor
  · rintro ⟨a, b⟩ h hh
    obtain ⟨v, hv, e⟩ := zneeds hB hh
    have hl : v &&& k < 1024 := Nat.lt_of_le_of_lt Nat.and_le_left hv
    have b' := b h hh
    rw [e, zand0 (by omega)] at b'
    rw [e, zand, decide_eq_true_eq, zbc_ge2 _ hl]
    refine ⟨b', fun s hs2 => ?_⟩
    by_cases t : k.testBit s = true
    · have hsn : s < ns := by
        rcases Nat.lt_or_ge s ns with q | q
        · exact q
        · rw [Nat.testBit_lt_two_pow (Nat.lt_of_lt_of_le hk (Nat.pow_le_pow_right (by decide) q))] at t
          exact absurd t (by decide)
      have := (e1 s hsn).mp (a s hsn) t h hh
      rw [e, zand0 (by omega), ← Nat.and_assoc] at this
      exact this
    · have e3 : v &&& k &&& (2 ^ s ^^^ 4294967295) = v &&& k := by
        apply Nat.eq_of_testBit_eq
        intro i
        rw [Nat.testBit_and, Nat.testBit_xor, Nat.testBit_two_pow]
        by_cases ei : s = i
        · subst ei
          rw [Nat.testBit_and, Bool.not_eq_true _ |>.mp t]; simp
        · rw [decide_eq_false ei]
          by_cases i32 : i < 32
          · rw [zall1 i32]; simp
          · rw [Nat.testBit_lt_two_pow (x := v &&& k) (Nat.lt_of_lt_of_le hl (Nat.pow_le_pow_right (n := 2) (i := 10) (by decide) (by omega)))]; simp
      rw [e3]; exact b'
  · intro a
    have a' : ∀ h, h < nh → ∃ v, v < 1024 ∧ V 11 h = nI v ∧ ¬ v &&& k = 0 ∧ ∀ s, s < 10 → ¬ v &&& k &&& (2 ^ s ^^^ 4294967295) = 0 := by
      intro h hh
      obtain ⟨v, hv, e⟩ := zneeds hB hh
      have hl : v &&& k < 1024 := Nat.lt_of_le_of_lt Nat.and_le_left hv
      have := a h hh
      rw [e, zand, decide_eq_true_eq, zbc_ge2 _ hl] at this
      exact ⟨v, hv, e, this⟩
    refine ⟨fun s hs2 => (e1 s hs2).mpr (fun t h hh => ?_), fun h hh => ?_⟩
    · obtain ⟨v, hv, e, -, b⟩ := a' h hh
      rw [e, zand0 (by omega), ← Nat.and_assoc]
      exact b s (by omega)
    · obtain ⟨v, hv, e, b, -⟩ := a' h hh
      rw [e, zand0 (by omega)]
      exact b
def yFwS (V : Nat → Nat → Int32) (ns nh : Nat) (w : Int32) (k : Nat) (s : Int32) : Int32 := if (nI k &&& (zAtHand V ns ^^^ (-1)) = 0) ∧ (s < 0 ∨ zbc (nI k) < zbc s) ∧ (if w < 2 then yAll V nh (nI k) else ySafe V ns nh (nI k)) then nI k else s
theorem zsubset {k a : Nat} (hk : k < 2 ^ 31) (h : nI k &&& (nI a ^^^ (-1)) = 0) : k ≤ a := by
  rw [znot, zand, show (0 : Int32) = nI 0 from rfl, nI_eq (Nat.lt_of_le_of_lt Nat.and_le_left hk) (by decide)] at h
  have e : k &&& a = k := by
    apply Nat.eq_of_testBit_eq
    intro i
    rw [Nat.testBit_and]
    by_cases hi : k.testBit i = true
    · have := congrArg (fun x => x.testBit i) h
      simp only [Nat.testBit_and, Nat.testBit_xor, Nat.zero_testBit] at this
      by_cases i31 : i < 32
      · rw [hi, zall1 i31] at this
        rw [hi]
        simpa using this
      · rw [Nat.testBit_lt_two_pow (Nat.lt_of_lt_of_le hk (Nat.pow_le_pow_right (n := 2) (by decide) (by omega)))] at hi
        exact absurd hi (by decide)
    · rw [Bool.not_eq_true _ |>.mp hi]; rfl
  rw [← e]
  exact Nat.and_le_right
theorem yFew_eq {V : Nat → Nat → Int32} {ns nt nh : Nat} {w e : Int32} (hB : zBd V ns nt nh) (hs : ns ≤ 10) (hn : nh ≤ 6) (he : e = if w < 2 then 1 else 2) :
    (zfor (yFwS V ns nh w) (2 ^ ns) 0 (-2) = -2 ∧ zFew V ns nh e < 0) ∨ (zfor (yFwS V ns nh w) (2 ^ ns) 0 (-2) = zFew V ns nh e ∧ ∃ j, j < 1024 ∧ zFew V ns nh e = nI j) := by
  have hA := zAtHand_N (V := V) hs
  have hAl := zN_lt (fun k => decide (V 8 k = 0)) ns
  have h1024 : 2 ^ ns ≤ 2 ^ 10 := Nat.pow_le_pow_right (by decide) hs
  obtain ⟨A, eA⟩ : ∃ A, A = zN (fun k => decide (V 8 k = 0)) ns := ⟨_, rfl⟩
  rw [← eA] at hA hAl
  have c : ∀ k, k < 2 ^ ns → ((if w < 2 then yAll V nh (nI k) else ySafe V ns nh (nI k)) ↔ zServ V nh (nI k) e) := by
    intro k hk
    by_cases q : w < 2
    · rw [if_pos q, he, if_pos q]; exact yServ1 hB hn (by omega)
    · rw [if_neg q, he, if_neg q]; exact yServ2 hB hs hn hk
  rw [zfor_split (n := A + 1) (by omega) 0 (Nat.zero_le _), zfor_id (by omega) (fun k s h1 h2 => ?_)]
  · have hc : (zAtHand V ns).toNatClampNeg = A := by rw [hA]; exact zcl_n (by omega)
    unfold zFew
    rw [hc]
    have rel := zfor_rel (f := yFwS V ns nh w) (g := zFewS V nh (zAtHand V ns) e) (R := fun s t : Int32 => (s = -2 ∧ t = -1) ∨ (s = t ∧ ∃ j, j < 1024 ∧ t = nI j)) (n := A + 1) (fun k s t hk hr => by
      unfold yFwS zFewS
      have hck := c k (by omega)
      have n1 : ∀ t : Int32, (∃ j, j < 1024 ∧ t = nI j) → ¬ t < 0 := by rintro t ⟨j, hj, rfl⟩; exact nI_pos (by omega)
      rcases hr with ⟨rfl, rfl⟩ | ⟨rfl, hj⟩
      · by_cases q : (nI k &&& (zAtHand V ns ^^^ (-1)) = 0) ∧ zServ V nh (nI k) e
        · rw [if_pos ⟨q.1, Or.inl (by decide), hck.mpr q.2⟩, if_pos ⟨Or.inl (by decide), q.1, q.2⟩]
          exact Or.inr ⟨rfl, k, by omega, rfl⟩
        · rw [if_neg (fun z => q ⟨z.1, hck.mp z.2.2⟩), if_neg (fun z => q z.2)]
          exact Or.inl ⟨rfl, rfl⟩
      · by_cases q : (nI k &&& (zAtHand V ns ^^^ (-1)) = 0) ∧ (s < 0 ∨ zbc (nI k) < zbc s) ∧ zServ V nh (nI k) e
        · rw [if_pos ⟨q.1, q.2.1, hck.mpr q.2.2⟩, if_pos ⟨q.2.1, q.1, q.2.2⟩]
          exact Or.inr ⟨rfl, k, by omega, rfl⟩
        · rw [if_neg (fun z => q ⟨z.1, z.2.1, hck.mp z.2.2⟩), if_neg (fun z => q ⟨z.2.1, z.1, z.2.2⟩)]
          exact Or.inr ⟨rfl, hj⟩) 0 (Nat.zero_le _) (-2) (-1) (Or.inl ⟨rfl, rfl⟩)
    rcases rel with ⟨r1, r2⟩ | ⟨r1, r2⟩
    · exact Or.inl ⟨r1, by rw [r2]; decide⟩
    · exact Or.inr ⟨r1, r2⟩
  · unfold yFwS
    rw [if_neg (fun z => ?_)]
    have := zsubset (a := A) (k := k) (by omega) (by rw [← hA]; exact z.1)
    omega
section S51
variable {g : zG} {l : Launch} {d : Nat} {I V : Nat → Nat → Int32} {L K : Nat → Nat → Int64} {fs : Nat × Nat × Option Nat} {ns nt nh nb : Nat} {pg : Option (List zLine)}
theorem sp_X12_fewest (hd : 4 ≤ d) (hM : zMs I V) (hK : zSky V ns nt nh) (hB : zBd V ns nt nh) {w0 : Int32} : zPure g l d m_X12_fewest [.ref 64, .int w0] I L fs (.int (if ¬ (0 ≤ w0 ∧ w0 ≤ 3) then -1 else if zFew V ns nh (if w0 < 2 then 1 else 2) < 0 then -2 else if w0 - w0 / 2 * 2 = 0 then zbc (zFew V ns nh (if w0 < 2 then 1 else 2)) else zFew V ns nh (if w0 < 2 then 1 else 2))) := by
  have hs := hK.2.1
  have hn := hK.2.2.2
  have m1 : I 64 1 = nI ns := hM.1.1.trans hK.1.1
  have h1024 : 2 ^ ns ≤ 2 ^ 10 := Nat.pow_le_pow_right (by decide) hs
  have key := yFew_eq (w := w0) hB hs hn rfl
  obtain ⟨R, eR⟩ : ∃ R, R = zFew V ns nh (if w0 < 2 then 1 else 2) := ⟨_, rfl⟩
  rw [← eR] at key ⊢
  have loop : (0 ≤ w0 ∧ w0 ≤ 3) → ∀ k, k ≤ 2 ^ ns → ∀ s, (s = -2 ∨ ∃ j, j < 1024 ∧ s = nI j) → zfor (yFwS V ns nh w0) (2 ^ ns) k s = zfor (yFwS V ns nh w0) (2 ^ ns) 0 (-2) → zA g l d m_X12_fewest I L fs 22 [(4, .int (nI k)), (3, .int s), (2, .int (zAtHand V ns)), (0, .ref 64), (1, .int w0)] (zP (.int (if ¬ (0 ≤ w0 ∧ w0 ≤ 3) then -1 else if R < 0 then -2 else if w0 - w0 / 2 * 2 = 0 then zbc R else R)) (zU I L fs)) := by
    intro hc
    refine zloop (2 ^ ns) (fun k hk ih s hs2 hx => ?_)
    have e1 : (1 : Int32) <<< (I 64 1 &&& 31) = nI (2 ^ ns) := by rw [m1]; exact zone (by omega)
    refine zIload d_X12_fewest_22 rfl (q := 24) rfl ?_
    refine zIconst d_X12_fewest_24 (v := 1) ic_1 (q := 25) rfl ?_
    refine zAloadN d_X12_fewest_25 rfl rfl (q := 26) rfl ?_
    refine zGetI d_X12_fewest_26 ff_X12_124 sh_64 (by decide) (q := 29) rfl ?_
    refine zIshl d_X12_fewest_29 (q := 30) rfl ?_
    rw [e1]
    refine zIcmp_ge d_X12_fewest_30 (tgt := 96) (q := 33) (by decide) rfl (fun h30 => ?_) (fun h30 => ?_)
    · have e : k = 2 ^ ns := by have := nle h30; omega
      rw [e, zfor_end (Nat.le_refl _)] at hx
      rw [← hx] at key
      rw [if_neg (fun z => z hc)]
      refine zIloadN d_X12_fewest_96 rfl rfl (q := 97) rfl ?_
      refine zIf_lt d_X12_fewest_97 (tgt := 107) (q := 100) (by decide) rfl (fun h97 => ?_) (fun h97 => ?_)
      · have s2 : s = -2 := by rcases hs2 with q | ⟨j, hj, q⟩; exact q; exact absurd h97 (by rw [q]; exact nI_pos (by omega))
        have r1 : R < 0 := by rcases key with q | ⟨q, j, hj, q2⟩; exact q.2; exact absurd (q.symm.trans s2) (by rw [q2]; intro z; have := zn_ge (k := j) (by omega); rw [z] at this; exact absurd this (by decide))
        rw [if_pos r1]
        subst s2
        refine zIloadN d_X12_fewest_107 rfl rfl (q := 108) rfl ?_
        refine zGoto d_X12_fewest_108 (q := 115) (by decide) ?_
        refine zIret d_X12_fewest_115 rfl rfl rfl ?_
        first | exact zPi rfl | exact zPi (by rw [r2.1]) | exact zPi r2.1
      · have r2 : s = R ∧ ¬ R < 0 := by rcases key with q | q; exact absurd (by rw [q.1]; decide) h97; exact ⟨q.1, by rw [← q.1]; exact h97⟩
        rw [if_neg r2.2]
        obtain ⟨j, hj, rfl⟩ := hs2.resolve_left (fun z => h97 (by rw [z]; decide))
        refine zIloadN d_X12_fewest_100 rfl rfl (q := 101) rfl ?_
        refine zIconst d_X12_fewest_101 (v := 2) ic_2 (q := 102) rfl ?_
        refine zIrem d_X12_fewest_102 (by decide) (q := 103) rfl ?_
        refine zIconst d_X12_fewest_103 (v := 1) ic_1 (q := 104) rfl ?_
        refine zIcmp_ne d_X12_fewest_104 (tgt := 111) (q := 107) (by decide) rfl (fun h104 => ?_) (fun h104 => ?_)
        · have p0 : w0 - w0 / 2 * 2 = 0 := by
            obtain ⟨a, ha, rfl⟩ := zn1 (x := w0) (n := 4) (by omega) hc.1 (by have := hc.2; have e4 : nI 4 = 4 := rfl; grind)
            obtain rfl | rfl | rfl | rfl : a = 0 ∨ a = 1 ∨ a = 2 ∨ a = 3 := by omega
            · rfl
            · exact absurd rfl h104
            · rfl
            · exact absurd rfl h104
          rw [if_pos p0]
          refine zIloadN d_X12_fewest_111 rfl rfl (q := 112) rfl ?_
          refine zCallSP d_X12_fewest_112 ml_X12_312 k_X12_bitsOf kt_X12_bitsOf (sp_X12_bitsOf (d := d - 1) (by omega) hj) rfl rfl (Nat.le_of_ble_eq_true rfl) (by decide) (by omega) zns100 (q := 115) rfl ?_
          refine zIret d_X12_fewest_115 rfl rfl rfl ?_
          first | exact zPi rfl | exact zPi (by rw [r2.1]) | exact zPi r2.1
        · have p1 : ¬ w0 - w0 / 2 * 2 = 0 := by rw [h104]; decide
          rw [if_neg p1]
          refine zIloadN d_X12_fewest_107 rfl rfl (q := 108) rfl ?_
          refine zGoto d_X12_fewest_108 (q := 115) (by decide) ?_
          refine zIret d_X12_fewest_115 rfl rfl rfl ?_
          first | exact zPi rfl | exact zPi (by rw [r2.1]) | exact zPi r2.1
    · have hlt := nnle h30
      rw [zfor_step hlt] at hx
      refine zIload d_X12_fewest_33 rfl (q := 35) rfl ?_
      refine zIloadN d_X12_fewest_35 rfl rfl (q := 36) rfl ?_
      refine zIconst d_X12_fewest_36 (v := -1) ic_m1 (q := 37) rfl ?_
      refine zIxor d_X12_fewest_37 (q := 38) rfl ?_
      refine zIand d_X12_fewest_38 (q := 39) rfl ?_
      refine zIf_ne d_X12_fewest_39 (tgt := 90) (q := 42) (by decide) rfl (fun h39 => ?_) (fun h39 => ?_)
      · have hstep : yFwS V ns nh w0 k s = s := if_neg (fun z => h39 z.1)
        have hs3 := hs2
        refine zIinc d_X12_fewest_90 rfl (zinc _) (by decide) rfl (q := 93) rfl ?_
        refine zGoto d_X12_fewest_93 (q := 22) (by decide) ?_
        refine zSub [0, 1, 2, 3, 4] rfl ?_
        exact ih hlt _ hs3 (by rw [← hx, hstep])
      · refine zIloadN d_X12_fewest_42 rfl rfl (q := 43) rfl ?_
        refine zIf_lt d_X12_fewest_43 (tgt := 61) (q := 46) (by decide) rfl (fun h43 => ?_) (fun h43 => ?_)
        · have hP : (if w0 < 2 then yAll V nh (nI k) else ySafe V ns nh (nI k)) → yFwS V ns nh w0 k s = nI k := fun z => if_pos ⟨h39, Or.inl h43, z⟩
          have hN : ¬ (if w0 < 2 then yAll V nh (nI k) else ySafe V ns nh (nI k)) → yFwS V ns nh w0 k s = s := fun z => if_neg (fun q => z q.2.2)
          refine zIloadN d_X12_fewest_61 rfl rfl (q := 62) rfl ?_
          refine zIconst d_X12_fewest_62 (v := 2) ic_2 (q := 63) rfl ?_
          refine zIcmp_ge d_X12_fewest_63 (tgt := 78) (q := 66) (by decide) rfl (fun h63 => ?_) (fun h63 => ?_)
          · refine zAloadN d_X12_fewest_78 rfl rfl (q := 79) rfl ?_
            refine zIload d_X12_fewest_79 rfl (q := 81) rfl ?_
            refine zCallVP d_X12_fewest_81 ml_X12_336 k_X12_areSafe ki_X12_areSafe ks_X12_areSafe (sp_X12_areSafe (d := d - 1) (by omega) hM hK) rfl rfl sh_64 (by decide) rfl (by decide) (Nat.le_of_ble_eq_true rfl) (by decide) (by omega) zns100 (q := 84) rfl ?_
            refine zIf_eq d_X12_fewest_84 (tgt := 90) (q := 87) (by decide) rfl (fun h84 => ?_) (fun h84 => ?_)
            · have hstep := hN (by rw [if_neg (Int32.not_lt.mpr h63)]; exact bi_0.mp h84)
              have hs3 := hs2
              refine zIinc d_X12_fewest_90 rfl (zinc _) (by decide) rfl (q := 93) rfl ?_
              refine zGoto d_X12_fewest_93 (q := 22) (by decide) ?_
              refine zSub [0, 1, 2, 3, 4] rfl ?_
              exact ih hlt _ hs3 (by rw [← hx, hstep])
            · have hstep := hP (by rw [if_neg (Int32.not_lt.mpr h63)]; exact bi_n0.mp h84)
              have hs3 : nI k = -2 ∨ ∃ j, j < 1024 ∧ nI k = nI j := Or.inr ⟨k, by omega, rfl⟩
              refine zIload d_X12_fewest_87 rfl (q := 89) rfl ?_
              refine zIstoreN d_X12_fewest_89 rfl (by decide) rfl (q := 90) rfl ?_
              refine zIinc d_X12_fewest_90 rfl (zinc _) (by decide) rfl (q := 93) rfl ?_
              refine zGoto d_X12_fewest_93 (q := 22) (by decide) ?_
              refine zSub [0, 1, 2, 3, 4] rfl ?_
              exact ih hlt _ hs3 (by rw [← hx, hstep])
          · refine zAloadN d_X12_fewest_66 rfl rfl (q := 67) rfl ?_
            refine zIload d_X12_fewest_67 rfl (q := 69) rfl ?_
            refine zCallVP d_X12_fewest_69 ml_X12_330 k_X12_allSteer ki_X12_allSteer ks_X12_allSteer (sp_X12_allSteer (d := d - 1) (by omega) hM hK) rfl rfl sh_64 (by decide) rfl (by decide) (Nat.le_of_ble_eq_true rfl) (by decide) (by omega) zns100 (q := 72) rfl ?_
            refine zIf_eq d_X12_fewest_72 (tgt := 90) (q := 75) (by decide) rfl (fun h72 => ?_) (fun h72 => ?_)
            · have hstep := hN (by rw [if_pos (Int32.not_le.mp h63)]; exact bi_0.mp h72)
              have hs3 := hs2
              refine zIinc d_X12_fewest_90 rfl (zinc _) (by decide) rfl (q := 93) rfl ?_
              refine zGoto d_X12_fewest_93 (q := 22) (by decide) ?_
              refine zSub [0, 1, 2, 3, 4] rfl ?_
              exact ih hlt _ hs3 (by rw [← hx, hstep])
            · have hstep := hP (by rw [if_pos (Int32.not_le.mp h63)]; exact bi_n0.mp h72)
              refine zGoto d_X12_fewest_75 (q := 87) (by decide) ?_
              have hs3 : nI k = -2 ∨ ∃ j, j < 1024 ∧ nI k = nI j := Or.inr ⟨k, by omega, rfl⟩
              refine zIload d_X12_fewest_87 rfl (q := 89) rfl ?_
              refine zIstoreN d_X12_fewest_89 rfl (by decide) rfl (q := 90) rfl ?_
              refine zIinc d_X12_fewest_90 rfl (zinc _) (by decide) rfl (q := 93) rfl ?_
              refine zGoto d_X12_fewest_93 (q := 22) (by decide) ?_
              refine zSub [0, 1, 2, 3, 4] rfl ?_
              exact ih hlt _ hs3 (by rw [← hx, hstep])
        · obtain ⟨j, hj, rfl⟩ := hs2.resolve_left (fun z => h43 (by rw [z]; decide))
          refine zIload d_X12_fewest_46 rfl (q := 48) rfl ?_
          refine zCallSP d_X12_fewest_48 ml_X12_312 k_X12_bitsOf kt_X12_bitsOf (sp_X12_bitsOf (d := d - 1) (by omega) (by omega)) rfl rfl (Nat.le_of_ble_eq_true rfl) (by decide) (by omega) zns100 (q := 51) rfl ?_
          refine zIloadN d_X12_fewest_51 rfl rfl (q := 52) rfl ?_
          refine zCallSP d_X12_fewest_52 ml_X12_312 k_X12_bitsOf kt_X12_bitsOf (sp_X12_bitsOf (d := d - 1) (by omega) hj) rfl rfl (Nat.le_of_ble_eq_true rfl) (by decide) (by omega) zns100 (q := 55) rfl ?_
          refine zIcmp_lt d_X12_fewest_55 (tgt := 61) (q := 58) (by decide) rfl (fun h55 => ?_) (fun h55 => ?_)
          · have hP : (if w0 < 2 then yAll V nh (nI k) else ySafe V ns nh (nI k)) → yFwS V ns nh w0 k (nI j) = nI k := fun z => if_pos ⟨h39, Or.inr h55, z⟩
            have hN : ¬ (if w0 < 2 then yAll V nh (nI k) else ySafe V ns nh (nI k)) → yFwS V ns nh w0 k (nI j) = nI j := fun z => if_neg (fun q => z q.2.2)
            refine zIloadN d_X12_fewest_61 rfl rfl (q := 62) rfl ?_
            refine zIconst d_X12_fewest_62 (v := 2) ic_2 (q := 63) rfl ?_
            refine zIcmp_ge d_X12_fewest_63 (tgt := 78) (q := 66) (by decide) rfl (fun h63 => ?_) (fun h63 => ?_)
            · refine zAloadN d_X12_fewest_78 rfl rfl (q := 79) rfl ?_
              refine zIload d_X12_fewest_79 rfl (q := 81) rfl ?_
              refine zCallVP d_X12_fewest_81 ml_X12_336 k_X12_areSafe ki_X12_areSafe ks_X12_areSafe (sp_X12_areSafe (d := d - 1) (by omega) hM hK) rfl rfl sh_64 (by decide) rfl (by decide) (Nat.le_of_ble_eq_true rfl) (by decide) (by omega) zns100 (q := 84) rfl ?_
              refine zIf_eq d_X12_fewest_84 (tgt := 90) (q := 87) (by decide) rfl (fun h84 => ?_) (fun h84 => ?_)
              · have hstep := hN (by rw [if_neg (Int32.not_lt.mpr h63)]; exact bi_0.mp h84)
                have hs3 := hs2
                refine zIinc d_X12_fewest_90 rfl (zinc _) (by decide) rfl (q := 93) rfl ?_
                refine zGoto d_X12_fewest_93 (q := 22) (by decide) ?_
                refine zSub [0, 1, 2, 3, 4] rfl ?_
                exact ih hlt _ hs3 (by rw [← hx, hstep])
              · have hstep := hP (by rw [if_neg (Int32.not_lt.mpr h63)]; exact bi_n0.mp h84)
                have hs3 : nI k = -2 ∨ ∃ j, j < 1024 ∧ nI k = nI j := Or.inr ⟨k, by omega, rfl⟩
                refine zIload d_X12_fewest_87 rfl (q := 89) rfl ?_
                refine zIstoreN d_X12_fewest_89 rfl (by decide) rfl (q := 90) rfl ?_
                refine zIinc d_X12_fewest_90 rfl (zinc _) (by decide) rfl (q := 93) rfl ?_
                refine zGoto d_X12_fewest_93 (q := 22) (by decide) ?_
                refine zSub [0, 1, 2, 3, 4] rfl ?_
                exact ih hlt _ hs3 (by rw [← hx, hstep])
            · refine zAloadN d_X12_fewest_66 rfl rfl (q := 67) rfl ?_
              refine zIload d_X12_fewest_67 rfl (q := 69) rfl ?_
              refine zCallVP d_X12_fewest_69 ml_X12_330 k_X12_allSteer ki_X12_allSteer ks_X12_allSteer (sp_X12_allSteer (d := d - 1) (by omega) hM hK) rfl rfl sh_64 (by decide) rfl (by decide) (Nat.le_of_ble_eq_true rfl) (by decide) (by omega) zns100 (q := 72) rfl ?_
              refine zIf_eq d_X12_fewest_72 (tgt := 90) (q := 75) (by decide) rfl (fun h72 => ?_) (fun h72 => ?_)
              · have hstep := hN (by rw [if_pos (Int32.not_le.mp h63)]; exact bi_0.mp h72)
                have hs3 := hs2
                refine zIinc d_X12_fewest_90 rfl (zinc _) (by decide) rfl (q := 93) rfl ?_
                refine zGoto d_X12_fewest_93 (q := 22) (by decide) ?_
                refine zSub [0, 1, 2, 3, 4] rfl ?_
                exact ih hlt _ hs3 (by rw [← hx, hstep])
              · have hstep := hP (by rw [if_pos (Int32.not_le.mp h63)]; exact bi_n0.mp h72)
                refine zGoto d_X12_fewest_75 (q := 87) (by decide) ?_
                have hs3 : nI k = -2 ∨ ∃ j, j < 1024 ∧ nI k = nI j := Or.inr ⟨k, by omega, rfl⟩
                refine zIload d_X12_fewest_87 rfl (q := 89) rfl ?_
                refine zIstoreN d_X12_fewest_89 rfl (by decide) rfl (q := 90) rfl ?_
                refine zIinc d_X12_fewest_90 rfl (zinc _) (by decide) rfl (q := 93) rfl ?_
                refine zGoto d_X12_fewest_93 (q := 22) (by decide) ?_
                refine zSub [0, 1, 2, 3, 4] rfl ?_
                exact ih hlt _ hs3 (by rw [← hx, hstep])
          · have hstep : yFwS V ns nh w0 k (nI j) = nI j := if_neg (fun z => z.2.1.elim h43 h55)
            have hs3 := hs2
            refine zGoto d_X12_fewest_58 (q := 90) (by decide) ?_
            refine zIinc d_X12_fewest_90 rfl (zinc _) (by decide) rfl (q := 93) rfl ?_
            refine zGoto d_X12_fewest_93 (q := 22) (by decide) ?_
            refine zSub [0, 1, 2, 3, 4] rfl ?_
            exact ih hlt _ hs3 (by rw [← hx, hstep])
  refine zSp_of (lv := [(0, .ref 64), (1, .int w0)]) k_X12_fewest rfl (Nat.le_of_ble_eq_true rfl) ?_
  refine zIloadN d_X12_fewest_0 rfl rfl (q := 1) rfl ?_
  refine zIconst d_X12_fewest_1 (v := 0) ic_0 (q := 2) rfl ?_
  refine zIconst d_X12_fewest_2 (v := 3) ic_3 (q := 3) rfl ?_
  refine zCallSP d_X12_fewest_3 ml_X12_127 k_X12_in kt_X12_in (sp_X12_in (d := d - 1) (by omega) ) rfl rfl (Nat.le_of_ble_eq_true rfl) (by decide) (by omega) zns100 (q := 6) rfl ?_
  refine zIf_ne d_X12_fewest_6 (tgt := 11) (q := 9) (by decide) rfl (fun h6 => ?_) (fun h6 => ?_)
  · refine zAloadN d_X12_fewest_11 rfl rfl (q := 12) rfl ?_
    refine zCallVP d_X12_fewest_12 ml_X12_333 k_X12_thereBits ki_X12_thereBits ks_X12_thereBits (sp_X12_thereBits (d := d - 1) (by omega) hM hK) rfl rfl sh_64 (by decide) rfl (by decide) (Nat.le_of_ble_eq_true rfl) (by decide) (by omega) zns100 (q := 15) rfl ?_
    refine zIstoreN d_X12_fewest_15 rfl (by decide) rfl (q := 16) rfl ?_
    refine zBipush d_X12_fewest_16 (v := -2) bc_m2 (q := 18) rfl ?_
    refine zIstoreN d_X12_fewest_18 rfl (by decide) rfl (q := 19) rfl ?_
    refine zIconst d_X12_fewest_19 (v := 0) ic_0 (q := 20) rfl ?_
    refine zIstore d_X12_fewest_20 (by decide) rfl (q := 22) rfl ?_
    refine zSub [0, 1, 2, 3, 4] rfl ?_
    exact loop (bi_n0.mp h6) 0 (Nat.zero_le _) (-2) (Or.inl rfl) rfl
  · have hc := bi_0.mp h6
    refine zIconst d_X12_fewest_9 (v := -1) ic_m1 (q := 10) rfl ?_
    refine zIret d_X12_fewest_10 rfl rfl rfl ?_
    exact zPi (by rw [if_pos hc])
end S51

