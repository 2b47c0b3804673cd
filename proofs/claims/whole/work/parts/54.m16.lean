theorem d_X12_bestOf_0 : decode (zmc m_X12_bestOf) 0 = .ok (.iload_n 2, 1) := by decide +kernel
theorem d_X12_bestOf_1 : decode (zmc m_X12_bestOf) 1 = .ok (.ifCond .ne 12, 3) := by decide +kernel
theorem d_X12_bestOf_4 : decode (zmc m_X12_bestOf) 4 = .ok (.aload_n 0, 1) := by decide +kernel
theorem d_X12_bestOf_5 : decode (zmc m_X12_bestOf) 5 = .ok (.iload_n 1, 1) := by decide +kernel
theorem d_X12_bestOf_6 : decode (zmc m_X12_bestOf) 6 = .ok (.invokevirtual 324, 3) := by decide +kernel
theorem d_X12_bestOf_9 : decode (zmc m_X12_bestOf) 9 = .ok (.invokestatic 312, 3) := by decide +kernel
theorem d_X12_bestOf_12 : decode (zmc m_X12_bestOf) 12 = .ok (.ireturn, 1) := by decide +kernel
theorem d_X12_bestOf_13 : decode (zmc m_X12_bestOf) 13 = .ok (.aload_n 0, 1) := by decide +kernel
theorem d_X12_bestOf_14 : decode (zmc m_X12_bestOf) 14 = .ok (.iload_n 1, 1) := by decide +kernel
theorem d_X12_bestOf_15 : decode (zmc m_X12_bestOf) 15 = .ok (.iload_n 2, 1) := by decide +kernel
theorem d_X12_bestOf_16 : decode (zmc m_X12_bestOf) 16 = .ok (.iconst 1, 1) := by decide +kernel
theorem d_X12_bestOf_17 : decode (zmc m_X12_bestOf) 17 = .ok (.isub, 1) := by decide +kernel
theorem d_X12_bestOf_18 : decode (zmc m_X12_bestOf) 18 = .ok (.iload_n 3, 1) := by decide +kernel
theorem d_X12_bestOf_19 : decode (zmc m_X12_bestOf) 19 = .ok (.ifCond .ne 7, 3) := by decide +kernel
theorem d_X12_bestOf_22 : decode (zmc m_X12_bestOf) 22 = .ok (.iconst 1, 1) := by decide +kernel
theorem d_X12_bestOf_23 : decode (zmc m_X12_bestOf) 23 = .ok (.goto 4, 3) := by decide +kernel
theorem d_X12_bestOf_26 : decode (zmc m_X12_bestOf) 26 = .ok (.iconst 0, 1) := by decide +kernel
theorem d_X12_bestOf_27 : decode (zmc m_X12_bestOf) 27 = .ok (.invokevirtual 346, 3) := by decide +kernel
theorem d_X12_bestOf_30 : decode (zmc m_X12_bestOf) 30 = .ok (.istore 4, 2) := by decide +kernel
theorem d_X12_bestOf_32 : decode (zmc m_X12_bestOf) 32 = .ok (.iconst 0, 1) := by decide +kernel
theorem d_X12_bestOf_33 : decode (zmc m_X12_bestOf) 33 = .ok (.istore 5, 2) := by decide +kernel
theorem d_X12_bestOf_35 : decode (zmc m_X12_bestOf) 35 = .ok (.iload 5, 2) := by decide +kernel
theorem d_X12_bestOf_37 : decode (zmc m_X12_bestOf) 37 = .ok (.aload_n 0, 1) := by decide +kernel
theorem d_X12_bestOf_38 : decode (zmc m_X12_bestOf) 38 = .ok (.getfield 124, 3) := by decide +kernel
theorem d_X12_bestOf_41 : decode (zmc m_X12_bestOf) 41 = .ok (.if_icmp .ge 72, 3) := by decide +kernel
theorem d_X12_bestOf_44 : decode (zmc m_X12_bestOf) 44 = .ok (.aload_n 0, 1) := by decide +kernel
theorem d_X12_bestOf_45 : decode (zmc m_X12_bestOf) 45 = .ok (.iload 5, 2) := by decide +kernel
theorem d_X12_bestOf_47 : decode (zmc m_X12_bestOf) 47 = .ok (.iload_n 1, 1) := by decide +kernel
theorem d_X12_bestOf_48 : decode (zmc m_X12_bestOf) 48 = .ok (.iload_n 3, 1) := by decide +kernel
theorem d_X12_bestOf_49 : decode (zmc m_X12_bestOf) 49 = .ok (.invokevirtual 350, 3) := by decide +kernel
theorem d_X12_bestOf_52 : decode (zmc m_X12_bestOf) 52 = .ok (.ifCond .ne 6, 3) := by decide +kernel
theorem d_X12_bestOf_55 : decode (zmc m_X12_bestOf) 55 = .ok (.goto 52, 3) := by decide +kernel
theorem d_X12_bestOf_58 : decode (zmc m_X12_bestOf) 58 = .ok (.aload_n 0, 1) := by decide +kernel
theorem d_X12_bestOf_59 : decode (zmc m_X12_bestOf) 59 = .ok (.iload_n 1, 1) := by decide +kernel
theorem d_X12_bestOf_60 : decode (zmc m_X12_bestOf) 60 = .ok (.iconst 1, 1) := by decide +kernel
theorem d_X12_bestOf_61 : decode (zmc m_X12_bestOf) 61 = .ok (.iload 5, 2) := by decide +kernel
theorem d_X12_bestOf_63 : decode (zmc m_X12_bestOf) 63 = .ok (.ishl, 1) := by decide +kernel
theorem d_X12_bestOf_64 : decode (zmc m_X12_bestOf) 64 = .ok (.ixor, 1) := by decide +kernel
theorem d_X12_bestOf_65 : decode (zmc m_X12_bestOf) 65 = .ok (.iload_n 2, 1) := by decide +kernel
theorem d_X12_bestOf_66 : decode (zmc m_X12_bestOf) 66 = .ok (.iconst 1, 1) := by decide +kernel
theorem d_X12_bestOf_67 : decode (zmc m_X12_bestOf) 67 = .ok (.isub, 1) := by decide +kernel
theorem d_X12_bestOf_68 : decode (zmc m_X12_bestOf) 68 = .ok (.iload_n 3, 1) := by decide +kernel
theorem d_X12_bestOf_69 : decode (zmc m_X12_bestOf) 69 = .ok (.ifCond .ne 7, 3) := by decide +kernel
theorem d_X12_bestOf_72 : decode (zmc m_X12_bestOf) 72 = .ok (.iconst 1, 1) := by decide +kernel
theorem d_X12_bestOf_73 : decode (zmc m_X12_bestOf) 73 = .ok (.goto 4, 3) := by decide +kernel
theorem d_X12_bestOf_76 : decode (zmc m_X12_bestOf) 76 = .ok (.iconst 0, 1) := by decide +kernel
theorem d_X12_bestOf_77 : decode (zmc m_X12_bestOf) 77 = .ok (.invokevirtual 346, 3) := by decide +kernel
theorem d_X12_bestOf_80 : decode (zmc m_X12_bestOf) 80 = .ok (.istore 6, 2) := by decide +kernel
theorem d_X12_bestOf_82 : decode (zmc m_X12_bestOf) 82 = .ok (.iload_n 3, 1) := by decide +kernel
theorem d_X12_bestOf_83 : decode (zmc m_X12_bestOf) 83 = .ok (.ifCond .eq 13, 3) := by decide +kernel
theorem d_X12_bestOf_86 : decode (zmc m_X12_bestOf) 86 = .ok (.iload 6, 2) := by decide +kernel
theorem d_X12_bestOf_88 : decode (zmc m_X12_bestOf) 88 = .ok (.iload 4, 2) := by decide +kernel
theorem d_X12_bestOf_90 : decode (zmc m_X12_bestOf) 90 = .ok (.if_icmp .le 17, 3) := by decide +kernel
theorem d_X12_bestOf_93 : decode (zmc m_X12_bestOf) 93 = .ok (.goto 10, 3) := by decide +kernel
theorem d_X12_bestOf_96 : decode (zmc m_X12_bestOf) 96 = .ok (.iload 6, 2) := by decide +kernel
theorem d_X12_bestOf_98 : decode (zmc m_X12_bestOf) 98 = .ok (.iload 4, 2) := by decide +kernel
theorem d_X12_bestOf_100 : decode (zmc m_X12_bestOf) 100 = .ok (.if_icmp .ge 7, 3) := by decide +kernel
theorem d_X12_bestOf_103 : decode (zmc m_X12_bestOf) 103 = .ok (.iload 6, 2) := by decide +kernel
theorem d_X12_bestOf_105 : decode (zmc m_X12_bestOf) 105 = .ok (.istore 4, 2) := by decide +kernel
theorem d_X12_bestOf_107 : decode (zmc m_X12_bestOf) 107 = .ok (.iinc 5 1, 3) := by decide +kernel
theorem d_X12_bestOf_110 : decode (zmc m_X12_bestOf) 110 = .ok (.goto (-75), 3) := by decide +kernel
theorem d_X12_bestOf_113 : decode (zmc m_X12_bestOf) 113 = .ok (.iload 4, 2) := by decide +kernel
theorem d_X12_bestOf_115 : decode (zmc m_X12_bestOf) 115 = .ok (.ireturn, 1) := by decide +kernel
theorem d_X12_mayTurn_0 : decode (zmc m_X12_mayTurn) 0 = .ok (.iload_n 3, 1) := by decide +kernel
theorem d_X12_mayTurn_1 : decode (zmc m_X12_mayTurn) 1 = .ok (.ifCond .eq 28, 3) := by decide +kernel
theorem d_X12_mayTurn_4 : decode (zmc m_X12_mayTurn) 4 = .ok (.aload_n 0, 1) := by decide +kernel
theorem d_X12_mayTurn_5 : decode (zmc m_X12_mayTurn) 5 = .ok (.getfield 27, 3) := by decide +kernel
theorem d_X12_mayTurn_8 : decode (zmc m_X12_mayTurn) 8 = .ok (.iload_n 1, 1) := by decide +kernel
theorem d_X12_mayTurn_9 : decode (zmc m_X12_mayTurn) 9 = .ok (.iaload, 1) := by decide +kernel
theorem d_X12_mayTurn_10 : decode (zmc m_X12_mayTurn) 10 = .ok (.ifCond .ne 15, 3) := by decide +kernel
theorem d_X12_mayTurn_13 : decode (zmc m_X12_mayTurn) 13 = .ok (.iload_n 2, 1) := by decide +kernel
theorem d_X12_mayTurn_14 : decode (zmc m_X12_mayTurn) 14 = .ok (.iload_n 1, 1) := by decide +kernel
theorem d_X12_mayTurn_15 : decode (zmc m_X12_mayTurn) 15 = .ok (.invokestatic 327, 3) := by decide +kernel
theorem d_X12_mayTurn_18 : decode (zmc m_X12_mayTurn) 18 = .ok (.ifCond .ne 7, 3) := by decide +kernel
theorem d_X12_mayTurn_21 : decode (zmc m_X12_mayTurn) 21 = .ok (.iconst 1, 1) := by decide +kernel
theorem d_X12_mayTurn_22 : decode (zmc m_X12_mayTurn) 22 = .ok (.goto 12, 3) := by decide +kernel
theorem d_X12_mayTurn_25 : decode (zmc m_X12_mayTurn) 25 = .ok (.iconst 0, 1) := by decide +kernel
theorem d_X12_mayTurn_26 : decode (zmc m_X12_mayTurn) 26 = .ok (.goto 8, 3) := by decide +kernel
theorem d_X12_mayTurn_29 : decode (zmc m_X12_mayTurn) 29 = .ok (.iload_n 2, 1) := by decide +kernel
theorem d_X12_mayTurn_30 : decode (zmc m_X12_mayTurn) 30 = .ok (.iload_n 1, 1) := by decide +kernel
theorem d_X12_mayTurn_31 : decode (zmc m_X12_mayTurn) 31 = .ok (.invokestatic 327, 3) := by decide +kernel
theorem d_X12_mayTurn_34 : decode (zmc m_X12_mayTurn) 34 = .ok (.ireturn, 1) := by decide +kernel
/-! THE REFERENCE: by turns -/
theorem zxorset {u k : Nat} (h : u.testBit k = false) : u ^^^ 2 ^ k = u ||| 2 ^ k := by
  apply Nat.eq_of_testBit_eq
  intro i
  rw [Nat.testBit_xor, Nat.testBit_or, Nat.testBit_two_pow]
  by_cases e : k = i
  · subst e; rw [h]; simp
  · rw [decide_eq_false e]; simp
theorem zxorclr {u k : Nat} (hu : u < 2 ^ 32) (h : u.testBit k = true) : u ^^^ 2 ^ k = u &&& (2 ^ k ^^^ 4294967295) := by
  apply Nat.eq_of_testBit_eq
  intro i
  rw [Nat.testBit_xor, Nat.testBit_and, Nat.testBit_xor, Nat.testBit_two_pow]
  by_cases e : k = i
  · subst e
    have h32 : k < 32 := by
      rcases Nat.lt_or_ge k 32 with q | q
      · exact q
      · rw [Nat.testBit_lt_two_pow (Nat.lt_of_lt_of_le hu (Nat.pow_le_pow_right (by decide) q))] at h
        exact absurd h (by decide)
    rw [h, zall1 h32]; simp
  · rw [decide_eq_false e]
    by_cases i32 : i < 32
    · rw [zall1 i32]; simp
    · rw [Nat.testBit_lt_two_pow (x := u) (Nat.lt_of_lt_of_le hu (Nat.pow_le_pow_right (by decide) (by omega)))]; simp
theorem zbit_and {x k : Nat} (hx : x < 2 ^ 31) : nI x &&& nI (2 ^ k) = 0 ↔ x.testBit k = false := by
  rw [zand0 hx]
  constructor
  · intro e
    have := congrArg (fun y => y.testBit k) e
    simp only [Nat.testBit_and, Nat.testBit_two_pow_self, Nat.zero_testBit, Bool.and_true] at this
    exact this
  · intro e
    apply Nat.eq_of_testBit_eq
    intro i
    rw [Nat.testBit_and, Nat.testBit_two_pow, Nat.zero_testBit]
    by_cases q : k = i
    · subst q; rw [e]; rfl
    · rw [decide_eq_false q]; simp
/-- who may be put up: there, and not up -/
theorem zmay_set {V : Nat → Nat → Int32} {ns u k : Nat} (hs : ns ≤ 10) (hk : k < ns) : (zAtHand V ns &&& (nI u ^^^ (-1))) &&& zB1 k = 0 ↔ ¬ (V 8 k = 0 ∧ u.testBit k = false) := by
  unfold zB1
  rw [zone (by omega), zAtHand_N hs, zandnot (zN_lt _ ns) (by omega), zbit_and (Nat.lt_of_lt_of_le (zN_1024 hs) (by decide)), zN_bit, zN_bit, decide_eq_true hk]
  cases u.testBit k <;> simp
def zBest (f : Bool) (x y : Int32) : Int32 := if f = true then zmx x y else zmn2 x y
/-- the same by rounds over who may be taken -/
def yTurn (V : Nat → Nat → Int32) (w : Bool) (u k : Nat) : Bool := match w with
  | true => decide (V 8 k = 0) && !u.testBit k
  | false => u.testBit k
theorem zVal_step {V : Nat → Nat → Int32} {ns nh n u : Nat} {w : Bool} (hs : ns ≤ 10) (hu : u < 2 ^ ns) : zVal V ns nh (zAtHand V ns) (n + 1) w (nI u) = zfor (fun k s => if yTurn V w u k = true then zBest w s (zVal V ns nh (zAtHand V ns) n (!w) (nI (u ^^^ 2 ^ k))) else s) ns 0 (zVal V ns nh (zAtHand V ns) n (!w) (nI u)) := by
  have h1024 : 2 ^ ns ≤ 2 ^ 10 := Nat.pow_le_pow_right (by decide) hs
  cases w with
  | true =>
    show zfor (fun k s => if (zAtHand V ns &&& (nI u ^^^ (-1))) &&& zB1 k = 0 then s else zmx s (zVal V ns nh (zAtHand V ns) n false (nI u ||| zB1 k))) ns 0 _ = _
    refine zfor_congr (fun k s _ hk => ?_)
    by_cases c : V 8 k = 0 ∧ u.testBit k = false
    · rw [if_neg (fun z => (zmay_set hs hk).mp z c), if_pos (by unfold yTurn; simp [c.1, c.2])]
      unfold zB1
      rw [zone (by omega), zorb, zxorset c.2]
      rfl
    · rw [if_pos ((zmay_set hs hk).mpr c), if_neg (by unfold yTurn; simpa using c)]
  | false =>
    show zfor (fun k s => if nI u &&& zB1 k = 0 then s else zmn2 s (zVal V ns nh (zAtHand V ns) n true (nI u &&& (zB1 k ^^^ (-1))))) ns 0 _ = _
    refine zfor_congr (fun k s _ hk => ?_)
    unfold zB1
    rw [zone (by omega)]
    by_cases c : u.testBit k = true
    · rw [if_neg (fun z => by rw [zbit_and (by omega)] at z; rw [z] at c; exact absurd c (by decide)), if_pos (show yTurn V false u k = true from c), znot, zand, zxorclr (by omega) c]
      rfl
    · rw [if_pos ((zbit_and (by omega)).mpr (by simpa using c)), if_neg (show ¬ yTurn V false u k = true from c)]
theorem zxor_lt {u k n : Nat} (hu : u < 2 ^ n) (hk : k < n) : u ^^^ 2 ^ k < 2 ^ n := Nat.xor_lt_two_pow hu (Nat.pow_lt_pow_right (by decide) hk)
/-- the first that reaches the best -/
def yFirst (c : Nat → Bool) (v : Nat → Int32) (M : Int32) (n k : Nat) : Int32 := if zrun (fun k => !(c k && decide (v k = M))) n k < n then nI (zrun (fun k => !(c k && decide (v k = M))) n k) else 10
theorem zarg {c : Nat → Bool} {v : Nat → Int32} {n : Nat} : ∀ k, k ≤ n → ∀ s : Int32 × Int32, ∃ M, zfor (fun k s => if c k = true then (if s.1 < v k then (v k, nI k) else s) else s) n k s = (M, if s.1 = M then s.2 else yFirst c v M n k) ∧ M = zfor (fun k x => if c k = true then zmx x (v k) else x) n k s.1 ∧ s.1 ≤ M ∧ (¬ s.1 = M → zrun (fun k => !(c k && decide (v k = M))) n k < n) := by
  refine zloop n (fun k hk ih s => ?_)
  rcases Nat.eq_or_lt_of_le hk with rfl | hlt
  · exact ⟨s.1, by rw [zfor_end (Nat.le_refl _), if_pos rfl], by rw [zfor_end (Nat.le_refl _)], Int32.le_refl _, fun z => absurd rfl z⟩
  · by_cases cc : c k = true
    · by_cases lt : s.1 < v k
      · obtain ⟨M, h1, h2, h3, h4⟩ := ih hlt (v k, nI k)
        have h3 : v k ≤ M := h3
        have ne : ¬ s.1 = M := fun z => by rw [← z] at h3; exact Int32.not_le.mpr lt h3
        refine ⟨M, ?_, ?_, Int32.le_trans (Int32.le_of_lt lt) h3, fun _ => ?_⟩
        · rw [zfor_step hlt, if_pos cc, if_pos lt, h1, if_neg ne]
          congr 1
          by_cases e : v k = M
          · rw [if_pos e]
            have q : ¬ (!(c k && decide (v k = M))) = true := by rw [cc, decide_eq_true e]; decide
            unfold yFirst
            rw [zrun_f (p := fun k => !(c k && decide (v k = M))) q, if_pos hlt]
          · rw [if_neg e]
            have q : (!(c k && decide (v k = M))) = true := by rw [decide_eq_false e]; simp
            unfold yFirst
            rw [zrun_t (p := fun k => !(c k && decide (v k = M))) hlt q]
        · rw [zfor_step hlt, if_pos cc, h2]
          unfold zmx
          rw [if_pos lt]
        · by_cases e : v k = M
          · have q : ¬ (!(c k && decide (v k = M))) = true := by rw [cc, decide_eq_true e]; decide
            rw [zrun_f (p := fun k => !(c k && decide (v k = M))) q]; exact hlt
          · have q : (!(c k && decide (v k = M))) = true := by rw [decide_eq_false e]; simp
            rw [zrun_t (p := fun k => !(c k && decide (v k = M))) hlt q]; exact h4 e
      · obtain ⟨M, h1, h2, h3, h4⟩ := ih hlt s
        refine ⟨M, ?_, ?_, h3, fun ne => ?_⟩
        · rw [zfor_step hlt, if_pos cc, if_neg lt, h1]
          congr 1
          by_cases e : s.1 = M
          · rw [if_pos e, if_pos e]
          · rw [if_neg e, if_neg e]
            have q : (!(c k && decide (v k = M))) = true := by
              rw [decide_eq_false (fun z => lt (by rw [z]; exact Int32.lt_of_le_of_ne h3 e))]; simp
            unfold yFirst
            rw [zrun_t (p := fun k => !(c k && decide (v k = M))) hlt q]
        · rw [zfor_step hlt, if_pos cc, h2]
          unfold zmx
          rw [if_neg lt]
        · have q : (!(c k && decide (v k = M))) = true := by
            rw [decide_eq_false (fun z => lt (by rw [z]; exact Int32.lt_of_le_of_ne h3 ne))]; simp
          rw [zrun_t (p := fun k => !(c k && decide (v k = M))) hlt q]; exact h4 ne
    · obtain ⟨M, h1, h2, h3, h4⟩ := ih hlt s
      have q : (!(c k && decide (v k = M))) = true := by rw [Bool.not_eq_true _ |>.mp cc]; rfl
      refine ⟨M, ?_, ?_, h3, fun ne => ?_⟩
      · rw [zfor_step hlt, if_neg cc, h1]
        unfold yFirst
        rw [zrun_t (p := fun k => !(c k && decide (v k = M))) hlt q]
      · rw [zfor_step hlt, if_neg cc, h2]
      · rw [zrun_t (p := fun k => !(c k && decide (v k = M))) hlt q]; exact h4 ne
section S54
variable {g : zG} {l : Launch} {d : Nat} {I V : Nat → Nat → Int32} {L K : Nat → Nat → Int64} {fs : Nat × Nat × Option Nat} {ns nt nh nb : Nat} {pg : Option (List zLine)}
theorem zPTs_eq {n : Nat} (hs : ns ≤ 10) {U : Nat} (hU : zbits (V 7) ns = nI U) (hUl : U < 2 ^ ns) (hUb : ∀ k, k < ns → U.testBit k = decide (¬ V 7 k = 0)) :
    zPTs V ns nh n = (zVal V ns nh (zAtHand V ns) (n + 1) true (nI U), if zVal V ns nh (zAtHand V ns) n false (nI U) = zVal V ns nh (zAtHand V ns) (n + 1) true (nI U) then 10 else yFirst (yTurn V true U) (fun k => zVal V ns nh (zAtHand V ns) n false (nI (U ^^^ 2 ^ k))) (zVal V ns nh (zAtHand V ns) (n + 1) true (nI U)) ns 0) := by
  have h1024 : 2 ^ ns ≤ 2 ^ 10 := Nat.pow_le_pow_right (by decide) hs
  obtain ⟨M, h1, h2, -, -⟩ := zarg (c := yTurn V true U) (v := fun k => zVal V ns nh (zAtHand V ns) n false (nI (U ^^^ 2 ^ k))) (n := ns) 0 (Nat.zero_le _) (zVal V ns nh (zAtHand V ns) n false (nI U), 10)
  have e1 : zPTs V ns nh n = zfor (fun k s => if yTurn V true U k = true then (if s.1 < zVal V ns nh (zAtHand V ns) n false (nI (U ^^^ 2 ^ k)) then (zVal V ns nh (zAtHand V ns) n false (nI (U ^^^ 2 ^ k)), nI k) else s) else s) ns 0 (zVal V ns nh (zAtHand V ns) n false (nI U), 10) := by
    unfold zPTs
    rw [hU]
    refine zfor_congr (fun k s _ hk => ?_)
    unfold zPT
    have ew : ((zWait V ns >>> (nI k &&& 31)) &&& 1 = 0) ↔ ¬ yTurn V true U k = true := by
      rw [zWait_N hs, zbit_0 (Nat.lt_of_lt_of_le (zN_1024 hs) (by decide)) (by omega), zN_bit, decide_eq_true hk]
      unfold yTurn
      dsimp only
      rw [hUb k hk]
      by_cases a : V 7 k = 0 <;> by_cases b : V 8 k = 0 <;> simp [a, b]
    by_cases c : yTurn V true U k = true
    · rw [if_neg (fun z => ew.mp z c), if_pos c, hU]
      have c2 : U.testBit k = false := by
        unfold yTurn at c
        dsimp only at c
        simp only [Bool.and_eq_true, Bool.not_eq_true'] at c
        exact c.2
      unfold zB1
      rw [zone (by omega), zorb, zxorset c2]
    · rw [if_pos (ew.mpr c), if_neg c]
  have e2 : zVal V ns nh (zAtHand V ns) (n + 1) true (nI U) = M := by rw [h2, zVal_step hs hUl]; rfl
  rw [e1, h1, e2]
theorem sp_X12_mayTurn (hd : 2 ≤ d) (hM : zMs I V) {u k : Nat} (hu : u < 1024) (hk : k < 10) {w : Bool} : zPure g l d m_X12_mayTurn [.ref 64, .int (nI k), .int (nI u), .int (if w = true then 1 else 0)] I L fs (.int (bi (yTurn V w u k = true))) := by
  have mg : I 70 = V 8 := hM.2.1.2.2.2.2.2.1
  have hb := zbit_1 (x := u) (k := k) (by omega) (by omega)
  cases w with
  | true =>
    refine zSp_of (lv := [(0, .ref 64), (1, .int (nI k)), (2, .int (nI u)), (3, .int 1)]) k_X12_mayTurn rfl (Nat.le_of_ble_eq_true rfl) ?_
    refine zIloadN d_X12_mayTurn_0 rfl rfl (q := 1) rfl ?_
    refine zIf_eq d_X12_mayTurn_1 (tgt := 29) (q := 4) (by decide) rfl (fun h => absurd h (by decide)) (fun h1 => ?_)
    refine zAloadN d_X12_mayTurn_4 rfl rfl (q := 5) rfl ?_
    refine zGetR d_X12_mayTurn_5 ff_X12_27 sh_64 (by decide) r_64_7 (q := 8) rfl ?_
    refine zIloadN d_X12_mayTurn_8 rfl rfl (q := 9) rfl ?_
    refine zIald d_X12_mayTurn_9 sh_70 (by decide) rfl hk (q := 10) rfl ?_
    rw [mg]
    refine zIf_ne d_X12_mayTurn_10 (tgt := 25) (q := 13) (by decide) rfl (fun h10 => ?_) (fun h10 => ?_)
    · refine zIconst d_X12_mayTurn_25 (v := 0) ic_0 (q := 26) rfl ?_
      refine zGoto d_X12_mayTurn_26 (q := 34) (by decide) ?_
      refine zIret d_X12_mayTurn_34 rfl (by first | exact zn_bi | rfl) rfl ?_
      first
      | exact zPi (bi_t (by show (decide (V 8 k = 0) && !u.testBit k) = true; rw [decide_eq_true h10]; simpa using fun z => bi_0.mp h18 (hb.mpr z))).symm
      | exact zPi (bi_f (by show ¬ (decide (V 8 k = 0) && !u.testBit k) = true; rw [hb.mp (bi_n0.mp h18)]; simp)).symm
      | exact zPi (bi_f (by show ¬ (decide (V 8 k = 0) && !u.testBit k) = true; rw [decide_eq_false h10]; simp)).symm
    · refine zIloadN d_X12_mayTurn_13 rfl rfl (q := 14) rfl ?_
      refine zIloadN d_X12_mayTurn_14 rfl rfl (q := 15) rfl ?_
      refine zCallSP d_X12_mayTurn_15 ml_X12_327 k_X12_has kt_X12_has (sp_X12_has (d := d - 1) (by omega) ) rfl rfl (Nat.le_of_ble_eq_true rfl) (by decide) (by omega) zns100 (q := 18) rfl ?_
      refine zIf_ne d_X12_mayTurn_18 (tgt := 25) (q := 21) (by decide) rfl (fun h18 => ?_) (fun h18 => ?_)
      · refine zIconst d_X12_mayTurn_25 (v := 0) ic_0 (q := 26) rfl ?_
        refine zGoto d_X12_mayTurn_26 (q := 34) (by decide) ?_
        refine zIret d_X12_mayTurn_34 rfl (by first | exact zn_bi | rfl) rfl ?_
        first
        | exact zPi (bi_t (by show (decide (V 8 k = 0) && !u.testBit k) = true; rw [decide_eq_true h10]; simpa using fun z => bi_0.mp h18 (hb.mpr z))).symm
        | exact zPi (bi_f (by show ¬ (decide (V 8 k = 0) && !u.testBit k) = true; rw [hb.mp (bi_n0.mp h18)]; simp)).symm
        | exact zPi (bi_f (by show ¬ (decide (V 8 k = 0) && !u.testBit k) = true; rw [decide_eq_false h10]; simp)).symm
      · refine zIconst d_X12_mayTurn_21 (v := 1) ic_1 (q := 22) rfl ?_
        refine zGoto d_X12_mayTurn_22 (q := 34) (by decide) ?_
        refine zIret d_X12_mayTurn_34 rfl (by first | exact zn_bi | rfl) rfl ?_
        first
        | exact zPi (bi_t (by show (decide (V 8 k = 0) && !u.testBit k) = true; rw [decide_eq_true h10]; simpa using fun z => bi_0.mp h18 (hb.mpr z))).symm
        | exact zPi (bi_f (by show ¬ (decide (V 8 k = 0) && !u.testBit k) = true; rw [hb.mp (bi_n0.mp h18)]; simp)).symm
        | exact zPi (bi_f (by show ¬ (decide (V 8 k = 0) && !u.testBit k) = true; rw [decide_eq_false h10]; simp)).symm
  | false =>
    refine zSp_of (lv := [(0, .ref 64), (1, .int (nI k)), (2, .int (nI u)), (3, .int 0)]) k_X12_mayTurn rfl (Nat.le_of_ble_eq_true rfl) ?_
    refine zIloadN d_X12_mayTurn_0 rfl rfl (q := 1) rfl ?_
    refine zIf_eq d_X12_mayTurn_1 (tgt := 29) (q := 4) (by decide) rfl (fun h1 => ?_) (fun h => absurd rfl h)
    refine zIloadN d_X12_mayTurn_29 rfl rfl (q := 30) rfl ?_
    refine zIloadN d_X12_mayTurn_30 rfl rfl (q := 31) rfl ?_
    refine zCallSP d_X12_mayTurn_31 ml_X12_327 k_X12_has kt_X12_has (sp_X12_has (d := d - 1) (by omega) ) rfl rfl (Nat.le_of_ble_eq_true rfl) (by decide) (by omega) zns100 (q := 34) rfl ?_
    refine zIret d_X12_mayTurn_34 rfl (by first | exact zn_bi | rfl) rfl ?_
    exact zPi (bi_iff hb)
theorem sp_X12_bestOf (hM : zMs I V) (hK : zSky V ns nt nh) : ∀ (n : Nat), n ≤ 4 → ∀ (d u : Nat) (w : Bool), n + 3 ≤ d → u < 2 ^ ns → zPure g l d m_X12_bestOf [.ref 64, .int (nI u), .int (nI n), .int (if w = true then 1 else 0)] I L fs (.int (zVal V ns nh (zAtHand V ns) n w (nI u))) := by
  have hs := hK.2.1
  have hn := hK.2.2.2
  have m1 : I 64 1 = nI ns := hM.1.1.trans hK.1.1
  have h1024 : 2 ^ ns ≤ 2 ^ 10 := Nat.pow_le_pow_right (by decide) hs
  intro n
  induction n with
  | zero =>
    intro _ d u w hd hu
    have eS := zsteer_N (V := V) (up := nI u) (nh := nh) (by omega)
    have eV : zVal V ns nh (zAtHand V ns) 0 w (nI u) = zbc (zSteer V nh (nI u)) := by cases w <;> rfl
    rw [eV]
    refine zSp_of (lv := [(0, .ref 64), (1, .int (nI u)), (2, .int (nI 0)), (3, .int (if w = true then 1 else 0))]) k_X12_bestOf rfl (Nat.le_of_ble_eq_true rfl) ?_
    refine zIloadN d_X12_bestOf_0 rfl rfl (q := 1) rfl ?_
    refine zIf_ne d_X12_bestOf_1 (tgt := 13) (q := 4) (by decide) rfl (fun h => absurd h (not_not_intro rfl)) (fun h1 => ?_)
    refine zAloadN d_X12_bestOf_4 rfl rfl (q := 5) rfl ?_
    refine zIloadN d_X12_bestOf_5 rfl rfl (q := 6) rfl ?_
    refine zCallVP d_X12_bestOf_6 ml_X12_324 k_X12_steerBy ki_X12_steerBy ks_X12_steerBy (sp_X12_steerBy (d := d - 1) (by omega) hM hK) rfl rfl sh_64 (by decide) rfl (by decide) (Nat.le_of_ble_eq_true rfl) (by decide) (by omega) zns100 (q := 9) rfl ?_
    rw [eS]
    refine zCallSP d_X12_bestOf_9 ml_X12_312 k_X12_bitsOf kt_X12_bitsOf (sp_X12_bitsOf (d := d - 1) (by omega) (zN_1024 (by omega))) rfl rfl (Nat.le_of_ble_eq_true rfl) (by decide) (by omega) zns100 (q := 12) rfl ?_
    refine zIret d_X12_bestOf_12 rfl rfl rfl ?_
    exact zPi rfl
  | succ n ih =>
    intro hn4 d u w hd hu
    have hp : ¬ nI (n + 1) = 0 := nI_ne0 (Nat.succ_pos n) (by omega)
    have hw : ∀ w : Bool, (if (!w) = true then (1 : Int32) else 0) = if w = true then 0 else 1 := by decide
    rw [zVal_step hs hu]
    have loop : ∀ k, k ≤ ns → ∀ b r, zfor (fun k s => if yTurn V w u k = true then zBest w s (zVal V ns nh (zAtHand V ns) n (!w) (nI (u ^^^ 2 ^ k))) else s) ns k b = r → zA g l d m_X12_bestOf I L fs 35 [(5, .int (nI k)), (4, .int b), (0, .ref 64), (1, .int (nI u)), (2, .int (nI (n + 1))), (3, .int (if w = true then 1 else 0))] (zP (.int r) (zU I L fs)) := by
      refine zloop ns (fun k hk ih2 b r hx => ?_)
      refine zIload d_X12_bestOf_35 rfl (q := 37) rfl ?_
      refine zAloadN d_X12_bestOf_37 rfl rfl (q := 38) rfl ?_
      refine zGetI d_X12_bestOf_38 ff_X12_124 sh_64 (by decide) (q := 41) rfl ?_
      refine zIcmp_ge d_X12_bestOf_41 (tgt := 113) (q := 44) (by decide) rfl (fun h41 => ?_) (fun h41 => ?_)
      · have e := nle (m1 ▸ h41)
        rw [zfor_end e] at hx
        refine zIload d_X12_bestOf_113 rfl (q := 115) rfl ?_
        refine zIret d_X12_bestOf_115 rfl rfl rfl ?_
        exact zPi hx
      · have hlt := nnle (m1 ▸ h41)
        rw [zfor_step hlt] at hx
        refine zAloadN d_X12_bestOf_44 rfl rfl (q := 45) rfl ?_
        refine zIload d_X12_bestOf_45 rfl (q := 47) rfl ?_
        refine zIloadN d_X12_bestOf_47 rfl rfl (q := 48) rfl ?_
        refine zIloadN d_X12_bestOf_48 rfl rfl (q := 49) rfl ?_
        refine zCallVP d_X12_bestOf_49 ml_X12_350 k_X12_mayTurn ki_X12_mayTurn ks_X12_mayTurn (sp_X12_mayTurn (d := d - 1) (by omega) hM (u := u) (k := k) (by omega) (by omega)) rfl rfl sh_64 (by decide) rfl (by decide) (Nat.le_of_ble_eq_true rfl) (by decide) (by omega) zns100 (q := 52) rfl ?_
        refine zIf_ne d_X12_bestOf_52 (tgt := 58) (q := 55) (by decide) rfl (fun h52 => ?_) (fun h52 => ?_)
        · rw [if_pos (bi_n0.mp h52)] at hx
          refine zAloadN d_X12_bestOf_58 rfl rfl (q := 59) rfl ?_
          refine zIloadN d_X12_bestOf_59 rfl rfl (q := 60) rfl ?_
          refine zIconst d_X12_bestOf_60 (v := 1) ic_1 (q := 61) rfl ?_
          refine zIload d_X12_bestOf_61 rfl (q := 63) rfl ?_
          refine zIshl d_X12_bestOf_63 (q := 64) rfl ?_
          rw [zone (by omega)]
          refine zIxor d_X12_bestOf_64 (q := 65) rfl ?_
          rw [zxor]
          refine zIloadN d_X12_bestOf_65 rfl rfl (q := 66) rfl ?_
          refine zIconst d_X12_bestOf_66 (v := 1) ic_1 (q := 67) rfl ?_
          refine zIsub d_X12_bestOf_67 (q := 68) rfl ?_
          rw [nI_pred]
          refine zIloadN d_X12_bestOf_68 rfl rfl (q := 69) rfl ?_
          refine zIf_ne d_X12_bestOf_69 (tgt := 76) (q := 72) (by decide) rfl (fun h69 => ?_) (fun h69 => ?_)
          · have ew : w = true := by cases w; exact absurd rfl h69; rfl
            subst ew
            have hih := ih (by omega) (d - 1) (u ^^^ 2 ^ k) false (by omega) (zxor_lt hu hlt)
            refine zIconst d_X12_bestOf_76 (v := 0) ic_0 (q := 77) rfl ?_
            refine zCallVP d_X12_bestOf_77 ml_X12_346 k_X12_bestOf ki_X12_bestOf ks_X12_bestOf hih rfl rfl sh_64 (by decide) rfl (by decide) (Nat.le_of_ble_eq_true rfl) (by decide) (by omega) zns100 (q := 80) rfl ?_
            refine zIstore d_X12_bestOf_80 (by decide) rfl (q := 82) rfl ?_
            refine zIloadN d_X12_bestOf_82 rfl rfl (q := 83) rfl ?_
            refine zIf_eq d_X12_bestOf_83 (tgt := 96) (q := 86) (by decide) rfl (fun h83 => ?_) (fun h83 => ?_)
            · refine zIload d_X12_bestOf_96 rfl (q := 98) rfl ?_
              refine zIload d_X12_bestOf_98 rfl (q := 100) rfl ?_
              refine zIcmp_ge d_X12_bestOf_100 (tgt := 107) (q := 103) (by decide) rfl (fun h100 => ?_) (fun h100 => ?_)
              · refine zIinc d_X12_bestOf_107 rfl (zinc _) (by decide) rfl (q := 110) rfl ?_
                refine zGoto d_X12_bestOf_110 (q := 35) (by decide) ?_
                refine zSub [0, 2, 3, 4, 5, 6] rfl ?_
                first
                | exact ih2 hlt _ _ hx
                | exact ih2 hlt _ _ (by rw [← hx]; congr 1; unfold zBest zmx; rw [if_pos rfl]; grind)
                | exact ih2 hlt _ _ (by rw [← hx]; congr 1; unfold zBest zmn2; rw [if_neg (by decide)]; grind)
                | exact absurd h83 (by decide)
                | exact absurd rfl h83
              · refine zIload d_X12_bestOf_103 rfl (q := 105) rfl ?_
                refine zIstore d_X12_bestOf_105 (by decide) rfl (q := 107) rfl ?_
                refine zIinc d_X12_bestOf_107 rfl (zinc _) (by decide) rfl (q := 110) rfl ?_
                refine zGoto d_X12_bestOf_110 (q := 35) (by decide) ?_
                refine zSub [0, 1, 3, 4, 5, 6] rfl ?_
                first
                | exact ih2 hlt _ _ hx
                | exact ih2 hlt _ _ (by rw [← hx]; congr 1; unfold zBest zmx; rw [if_pos rfl]; grind)
                | exact ih2 hlt _ _ (by rw [← hx]; congr 1; unfold zBest zmn2; rw [if_neg (by decide)]; grind)
                | exact absurd h83 (by decide)
                | exact absurd rfl h83
            · refine zIload d_X12_bestOf_86 rfl (q := 88) rfl ?_
              refine zIload d_X12_bestOf_88 rfl (q := 90) rfl ?_
              refine zIcmp_le d_X12_bestOf_90 (tgt := 107) (q := 93) (by decide) rfl (fun h90 => ?_) (fun h90 => ?_)
              · refine zIinc d_X12_bestOf_107 rfl (zinc _) (by decide) rfl (q := 110) rfl ?_
                refine zGoto d_X12_bestOf_110 (q := 35) (by decide) ?_
                refine zSub [0, 2, 3, 4, 5, 6] rfl ?_
                first
                | exact ih2 hlt _ _ hx
                | exact ih2 hlt _ _ (by rw [← hx]; congr 1; unfold zBest zmx; rw [if_pos rfl]; grind)
                | exact ih2 hlt _ _ (by rw [← hx]; congr 1; unfold zBest zmn2; rw [if_neg (by decide)]; grind)
                | exact absurd h83 (by decide)
                | exact absurd rfl h83
              · refine zGoto d_X12_bestOf_93 (q := 103) (by decide) ?_
                refine zIload d_X12_bestOf_103 rfl (q := 105) rfl ?_
                refine zIstore d_X12_bestOf_105 (by decide) rfl (q := 107) rfl ?_
                refine zIinc d_X12_bestOf_107 rfl (zinc _) (by decide) rfl (q := 110) rfl ?_
                refine zGoto d_X12_bestOf_110 (q := 35) (by decide) ?_
                refine zSub [0, 1, 3, 4, 5, 6] rfl ?_
                first
                | exact ih2 hlt _ _ hx
                | exact ih2 hlt _ _ (by rw [← hx]; congr 1; unfold zBest zmx; rw [if_pos rfl]; grind)
                | exact ih2 hlt _ _ (by rw [← hx]; congr 1; unfold zBest zmn2; rw [if_neg (by decide)]; grind)
                | exact absurd h83 (by decide)
                | exact absurd rfl h83
          · have ew : w = false := by cases w; rfl; exact absurd h69 (by decide)
            subst ew
            have hih := ih (by omega) (d - 1) (u ^^^ 2 ^ k) true (by omega) (zxor_lt hu hlt)
            refine zIconst d_X12_bestOf_72 (v := 1) ic_1 (q := 73) rfl ?_
            refine zGoto d_X12_bestOf_73 (q := 77) (by decide) ?_
            refine zCallVP d_X12_bestOf_77 ml_X12_346 k_X12_bestOf ki_X12_bestOf ks_X12_bestOf hih rfl rfl sh_64 (by decide) rfl (by decide) (Nat.le_of_ble_eq_true rfl) (by decide) (by omega) zns100 (q := 80) rfl ?_
            refine zIstore d_X12_bestOf_80 (by decide) rfl (q := 82) rfl ?_
            refine zIloadN d_X12_bestOf_82 rfl rfl (q := 83) rfl ?_
            refine zIf_eq d_X12_bestOf_83 (tgt := 96) (q := 86) (by decide) rfl (fun h83 => ?_) (fun h83 => ?_)
            · refine zIload d_X12_bestOf_96 rfl (q := 98) rfl ?_
              refine zIload d_X12_bestOf_98 rfl (q := 100) rfl ?_
              refine zIcmp_ge d_X12_bestOf_100 (tgt := 107) (q := 103) (by decide) rfl (fun h100 => ?_) (fun h100 => ?_)
              · refine zIinc d_X12_bestOf_107 rfl (zinc _) (by decide) rfl (q := 110) rfl ?_
                refine zGoto d_X12_bestOf_110 (q := 35) (by decide) ?_
                refine zSub [0, 2, 3, 4, 5, 6] rfl ?_
                first
                | exact ih2 hlt _ _ hx
                | exact ih2 hlt _ _ (by rw [← hx]; congr 1; unfold zBest zmx; rw [if_pos rfl]; grind)
                | exact ih2 hlt _ _ (by rw [← hx]; congr 1; unfold zBest zmn2; rw [if_neg (by decide)]; grind)
                | exact absurd h83 (by decide)
                | exact absurd rfl h83
              · refine zIload d_X12_bestOf_103 rfl (q := 105) rfl ?_
                refine zIstore d_X12_bestOf_105 (by decide) rfl (q := 107) rfl ?_
                refine zIinc d_X12_bestOf_107 rfl (zinc _) (by decide) rfl (q := 110) rfl ?_
                refine zGoto d_X12_bestOf_110 (q := 35) (by decide) ?_
                refine zSub [0, 1, 3, 4, 5, 6] rfl ?_
                first
                | exact ih2 hlt _ _ hx
                | exact ih2 hlt _ _ (by rw [← hx]; congr 1; unfold zBest zmx; rw [if_pos rfl]; grind)
                | exact ih2 hlt _ _ (by rw [← hx]; congr 1; unfold zBest zmn2; rw [if_neg (by decide)]; grind)
                | exact absurd h83 (by decide)
                | exact absurd rfl h83
            · refine zIload d_X12_bestOf_86 rfl (q := 88) rfl ?_
              refine zIload d_X12_bestOf_88 rfl (q := 90) rfl ?_
              refine zIcmp_le d_X12_bestOf_90 (tgt := 107) (q := 93) (by decide) rfl (fun h90 => ?_) (fun h90 => ?_)
              · refine zIinc d_X12_bestOf_107 rfl (zinc _) (by decide) rfl (q := 110) rfl ?_
                refine zGoto d_X12_bestOf_110 (q := 35) (by decide) ?_
                refine zSub [0, 2, 3, 4, 5, 6] rfl ?_
                first
                | exact ih2 hlt _ _ hx
                | exact ih2 hlt _ _ (by rw [← hx]; congr 1; unfold zBest zmx; rw [if_pos rfl]; grind)
                | exact ih2 hlt _ _ (by rw [← hx]; congr 1; unfold zBest zmn2; rw [if_neg (by decide)]; grind)
                | exact absurd h83 (by decide)
                | exact absurd rfl h83
              · refine zGoto d_X12_bestOf_93 (q := 103) (by decide) ?_
                refine zIload d_X12_bestOf_103 rfl (q := 105) rfl ?_
                refine zIstore d_X12_bestOf_105 (by decide) rfl (q := 107) rfl ?_
                refine zIinc d_X12_bestOf_107 rfl (zinc _) (by decide) rfl (q := 110) rfl ?_
                refine zGoto d_X12_bestOf_110 (q := 35) (by decide) ?_
                refine zSub [0, 1, 3, 4, 5, 6] rfl ?_
                first
                | exact ih2 hlt _ _ hx
                | exact ih2 hlt _ _ (by rw [← hx]; congr 1; unfold zBest zmx; rw [if_pos rfl]; grind)
                | exact ih2 hlt _ _ (by rw [← hx]; congr 1; unfold zBest zmn2; rw [if_neg (by decide)]; grind)
                | exact absurd h83 (by decide)
                | exact absurd rfl h83
        · rw [if_neg (bi_0.mp h52)] at hx
          refine zGoto d_X12_bestOf_55 (q := 107) (by decide) ?_
          refine zIinc d_X12_bestOf_107 rfl (zinc _) (by decide) rfl (q := 110) rfl ?_
          refine zGoto d_X12_bestOf_110 (q := 35) (by decide) ?_
          refine zSub [0, 1, 2, 3, 4, 5] rfl ?_
          first
          | exact ih2 hlt _ _ hx
          | exact ih2 hlt _ _ (by rw [← hx]; congr 1; unfold zBest zmx; rw [if_pos rfl]; grind)
          | exact ih2 hlt _ _ (by rw [← hx]; congr 1; unfold zBest zmn2; rw [if_neg (by decide)]; grind)
          | exact absurd h83 (by decide)
          | exact absurd rfl h83
    refine zSp_of (lv := [(0, .ref 64), (1, .int (nI u)), (2, .int (nI (n + 1))), (3, .int (if w = true then 1 else 0))]) k_X12_bestOf rfl (Nat.le_of_ble_eq_true rfl) ?_
    refine zIloadN d_X12_bestOf_0 rfl rfl (q := 1) rfl ?_
    refine zIf_ne d_X12_bestOf_1 (tgt := 13) (q := 4) (by decide) rfl (fun h1 => ?_) (fun h => absurd h hp)
    refine zAloadN d_X12_bestOf_13 rfl rfl (q := 14) rfl ?_
    refine zIloadN d_X12_bestOf_14 rfl rfl (q := 15) rfl ?_
    refine zIloadN d_X12_bestOf_15 rfl rfl (q := 16) rfl ?_
    refine zIconst d_X12_bestOf_16 (v := 1) ic_1 (q := 17) rfl ?_
    refine zIsub d_X12_bestOf_17 (q := 18) rfl ?_
    rw [nI_pred]
    refine zIloadN d_X12_bestOf_18 rfl rfl (q := 19) rfl ?_
    refine zIf_ne d_X12_bestOf_19 (tgt := 26) (q := 22) (by decide) rfl (fun h19 => ?_) (fun h19 => ?_)
    · have ew : w = true := by cases w; exact absurd rfl h19; rfl
      subst ew
      have hih := ih (by omega) (d - 1) u false (by omega) hu
      refine zIconst d_X12_bestOf_26 (v := 0) ic_0 (q := 27) rfl ?_
      refine zCallVP d_X12_bestOf_27 ml_X12_346 k_X12_bestOf ki_X12_bestOf ks_X12_bestOf hih rfl rfl sh_64 (by decide) rfl (by decide) (Nat.le_of_ble_eq_true rfl) (by decide) (by omega) zns100 (q := 30) rfl ?_
      refine zIstore d_X12_bestOf_30 (by decide) rfl (q := 32) rfl ?_
      refine zIconst d_X12_bestOf_32 (v := 0) ic_0 (q := 33) rfl ?_
      refine zIstore d_X12_bestOf_33 (by decide) rfl (q := 35) rfl ?_
      refine zSub [0, 1, 2, 3, 4, 5] rfl ?_
      exact loop 0 (Nat.zero_le _) _ _ rfl
    · have ew : w = false := by cases w; rfl; exact absurd h19 (by decide)
      subst ew
      have hih := ih (by omega) (d - 1) u true (by omega) hu
      refine zIconst d_X12_bestOf_22 (v := 1) ic_1 (q := 23) rfl ?_
      refine zGoto d_X12_bestOf_23 (q := 27) (by decide) ?_
      refine zCallVP d_X12_bestOf_27 ml_X12_346 k_X12_bestOf ki_X12_bestOf ks_X12_bestOf hih rfl rfl sh_64 (by decide) rfl (by decide) (Nat.le_of_ble_eq_true rfl) (by decide) (by omega) zns100 (q := 30) rfl ?_
      refine zIstore d_X12_bestOf_30 (by decide) rfl (q := 32) rfl ?_
      refine zIconst d_X12_bestOf_32 (v := 0) ic_0 (q := 33) rfl ?_
      refine zIstore d_X12_bestOf_33 (by decide) rfl (q := 35) rfl ?_
      refine zSub [0, 1, 2, 3, 4, 5] rfl ?_
      exact loop 0 (Nat.zero_le _) _ _ rfl
end S54

