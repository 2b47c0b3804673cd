theorem d_X12_areStarThrower_0 : decode (zmc m_X12_areStarThrower) 0 = .ok (.iload_n 1, 1) := by decide +kernel
theorem d_X12_areStarThrower_1 : decode (zmc m_X12_areStarThrower) 1 = .ok (.ifCond .lt 29, 3) := by decide +kernel
theorem d_X12_areStarThrower_4 : decode (zmc m_X12_areStarThrower) 4 = .ok (.aload_n 0, 1) := by decide +kernel
theorem d_X12_areStarThrower_5 : decode (zmc m_X12_areStarThrower) 5 = .ok (.iload_n 1, 1) := by decide +kernel
theorem d_X12_areStarThrower_6 : decode (zmc m_X12_areStarThrower) 6 = .ok (.bipush 10, 2) := by decide +kernel
theorem d_X12_areStarThrower_8 : decode (zmc m_X12_areStarThrower) 8 = .ok (.idiv, 1) := by decide +kernel
theorem d_X12_areStarThrower_9 : decode (zmc m_X12_areStarThrower) 9 = .ok (.invokevirtual 134, 3) := by decide +kernel
theorem d_X12_areStarThrower_12 : decode (zmc m_X12_areStarThrower) 12 = .ok (.ifCond .eq 18, 3) := by decide +kernel
theorem d_X12_areStarThrower_15 : decode (zmc m_X12_areStarThrower) 15 = .ok (.aload_n 0, 1) := by decide +kernel
theorem d_X12_areStarThrower_16 : decode (zmc m_X12_areStarThrower) 16 = .ok (.iload_n 1, 1) := by decide +kernel
theorem d_X12_areStarThrower_17 : decode (zmc m_X12_areStarThrower) 17 = .ok (.bipush 10, 2) := by decide +kernel
theorem d_X12_areStarThrower_19 : decode (zmc m_X12_areStarThrower) 19 = .ok (.irem, 1) := by decide +kernel
theorem d_X12_areStarThrower_20 : decode (zmc m_X12_areStarThrower) 20 = .ok (.invokevirtual 138, 3) := by decide +kernel
theorem d_X12_areStarThrower_23 : decode (zmc m_X12_areStarThrower) 23 = .ok (.ifCond .eq 7, 3) := by decide +kernel
theorem d_X12_areStarThrower_26 : decode (zmc m_X12_areStarThrower) 26 = .ok (.iconst 1, 1) := by decide +kernel
theorem d_X12_areStarThrower_27 : decode (zmc m_X12_areStarThrower) 27 = .ok (.goto 4, 3) := by decide +kernel
theorem d_X12_areStarThrower_30 : decode (zmc m_X12_areStarThrower) 30 = .ok (.iconst 0, 1) := by decide +kernel
theorem d_X12_areStarThrower_31 : decode (zmc m_X12_areStarThrower) 31 = .ok (.ireturn, 1) := by decide +kernel
theorem d_X12_bitsOf_0 : decode (zmc m_X12_bitsOf) 0 = .ok (.iconst 0, 1) := by decide +kernel
theorem d_X12_bitsOf_1 : decode (zmc m_X12_bitsOf) 1 = .ok (.istore_n 1, 1) := by decide +kernel
theorem d_X12_bitsOf_2 : decode (zmc m_X12_bitsOf) 2 = .ok (.iload_n 0, 1) := by decide +kernel
theorem d_X12_bitsOf_3 : decode (zmc m_X12_bitsOf) 3 = .ok (.istore_n 2, 1) := by decide +kernel
theorem d_X12_bitsOf_4 : decode (zmc m_X12_bitsOf) 4 = .ok (.iload_n 2, 1) := by decide +kernel
theorem d_X12_bitsOf_5 : decode (zmc m_X12_bitsOf) 5 = .ok (.ifCond .eq 15, 3) := by decide +kernel
theorem d_X12_bitsOf_8 : decode (zmc m_X12_bitsOf) 8 = .ok (.iinc 1 1, 3) := by decide +kernel
theorem d_X12_bitsOf_11 : decode (zmc m_X12_bitsOf) 11 = .ok (.iload_n 2, 1) := by decide +kernel
theorem d_X12_bitsOf_12 : decode (zmc m_X12_bitsOf) 12 = .ok (.iload_n 2, 1) := by decide +kernel
theorem d_X12_bitsOf_13 : decode (zmc m_X12_bitsOf) 13 = .ok (.iconst 1, 1) := by decide +kernel
theorem d_X12_bitsOf_14 : decode (zmc m_X12_bitsOf) 14 = .ok (.isub, 1) := by decide +kernel
theorem d_X12_bitsOf_15 : decode (zmc m_X12_bitsOf) 15 = .ok (.iand, 1) := by decide +kernel
theorem d_X12_bitsOf_16 : decode (zmc m_X12_bitsOf) 16 = .ok (.istore_n 2, 1) := by decide +kernel
theorem d_X12_bitsOf_17 : decode (zmc m_X12_bitsOf) 17 = .ok (.goto (-13), 3) := by decide +kernel
theorem d_X12_bitsOf_20 : decode (zmc m_X12_bitsOf) 20 = .ok (.iload_n 1, 1) := by decide +kernel
theorem d_X12_bitsOf_21 : decode (zmc m_X12_bitsOf) 21 = .ok (.ireturn, 1) := by decide +kernel
theorem d_X12_has_0 : decode (zmc m_X12_has) 0 = .ok (.iload_n 0, 1) := by decide +kernel
theorem d_X12_has_1 : decode (zmc m_X12_has) 1 = .ok (.iload_n 1, 1) := by decide +kernel
theorem d_X12_has_2 : decode (zmc m_X12_has) 2 = .ok (.ishr, 1) := by decide +kernel
theorem d_X12_has_3 : decode (zmc m_X12_has) 3 = .ok (.iconst 1, 1) := by decide +kernel
theorem d_X12_has_4 : decode (zmc m_X12_has) 4 = .ok (.iand, 1) := by decide +kernel
theorem d_X12_has_5 : decode (zmc m_X12_has) 5 = .ok (.iconst 1, 1) := by decide +kernel
theorem d_X12_has_6 : decode (zmc m_X12_has) 6 = .ok (.if_icmp .ne 7, 3) := by decide +kernel
theorem d_X12_has_9 : decode (zmc m_X12_has) 9 = .ok (.iconst 1, 1) := by decide +kernel
theorem d_X12_has_10 : decode (zmc m_X12_has) 10 = .ok (.goto 4, 3) := by decide +kernel
theorem d_X12_has_13 : decode (zmc m_X12_has) 13 = .ok (.iconst 0, 1) := by decide +kernel
theorem d_X12_has_14 : decode (zmc m_X12_has) 14 = .ok (.ireturn, 1) := by decide +kernel
theorem d_X12_in_0 : decode (zmc m_X12_in) 0 = .ok (.iload_n 0, 1) := by decide +kernel
theorem d_X12_in_1 : decode (zmc m_X12_in) 1 = .ok (.iload_n 1, 1) := by decide +kernel
theorem d_X12_in_2 : decode (zmc m_X12_in) 2 = .ok (.if_icmp .lt 12, 3) := by decide +kernel
theorem d_X12_in_5 : decode (zmc m_X12_in) 5 = .ok (.iload_n 0, 1) := by decide +kernel
theorem d_X12_in_6 : decode (zmc m_X12_in) 6 = .ok (.iload_n 2, 1) := by decide +kernel
theorem d_X12_in_7 : decode (zmc m_X12_in) 7 = .ok (.if_icmp .gt 7, 3) := by decide +kernel
theorem d_X12_in_10 : decode (zmc m_X12_in) 10 = .ok (.iconst 1, 1) := by decide +kernel
theorem d_X12_in_11 : decode (zmc m_X12_in) 11 = .ok (.goto 4, 3) := by decide +kernel
theorem d_X12_in_14 : decode (zmc m_X12_in) 14 = .ok (.iconst 0, 1) := by decide +kernel
theorem d_X12_in_15 : decode (zmc m_X12_in) 15 = .ok (.ireturn, 1) := by decide +kernel
theorem d_X12_isCell_0 : decode (zmc m_X12_isCell) 0 = .ok (.iload_n 0, 1) := by decide +kernel
theorem d_X12_isCell_1 : decode (zmc m_X12_isCell) 1 = .ok (.iconst 0, 1) := by decide +kernel
theorem d_X12_isCell_2 : decode (zmc m_X12_isCell) 2 = .ok (.bipush 47, 2) := by decide +kernel
theorem d_X12_isCell_4 : decode (zmc m_X12_isCell) 4 = .ok (.invokestatic 127, 3) := by decide +kernel
theorem d_X12_isCell_7 : decode (zmc m_X12_isCell) 7 = .ok (.ireturn, 1) := by decide +kernel
theorem d_X12_isFree_0 : decode (zmc m_X12_isFree) 0 = .ok (.aload_n 0, 1) := by decide +kernel
theorem d_X12_isFree_1 : decode (zmc m_X12_isFree) 1 = .ok (.iload_n 1, 1) := by decide +kernel
theorem d_X12_isFree_2 : decode (zmc m_X12_isFree) 2 = .ok (.invokevirtual 141, 3) := by decide +kernel
theorem d_X12_isFree_5 : decode (zmc m_X12_isFree) 5 = .ok (.istore_n 3, 1) := by decide +kernel
theorem d_X12_isFree_6 : decode (zmc m_X12_isFree) 6 = .ok (.iload_n 3, 1) := by decide +kernel
theorem d_X12_isFree_7 : decode (zmc m_X12_isFree) 7 = .ok (.ifCond .lt 8, 3) := by decide +kernel
theorem d_X12_isFree_10 : decode (zmc m_X12_isFree) 10 = .ok (.iload_n 3, 1) := by decide +kernel
theorem d_X12_isFree_11 : decode (zmc m_X12_isFree) 11 = .ok (.iload_n 2, 1) := by decide +kernel
theorem d_X12_isFree_12 : decode (zmc m_X12_isFree) 12 = .ok (.if_icmp .ne 7, 3) := by decide +kernel
theorem d_X12_isFree_15 : decode (zmc m_X12_isFree) 15 = .ok (.iconst 1, 1) := by decide +kernel
theorem d_X12_isFree_16 : decode (zmc m_X12_isFree) 16 = .ok (.goto 4, 3) := by decide +kernel
theorem d_X12_isFree_19 : decode (zmc m_X12_isFree) 19 = .ok (.iconst 0, 1) := by decide +kernel
theorem d_X12_isFree_20 : decode (zmc m_X12_isFree) 20 = .ok (.ireturn, 1) := by decide +kernel
theorem d_X12_isStar_0 : decode (zmc m_X12_isStar) 0 = .ok (.iload_n 1, 1) := by decide +kernel
theorem d_X12_isStar_1 : decode (zmc m_X12_isStar) 1 = .ok (.iconst 0, 1) := by decide +kernel
theorem d_X12_isStar_2 : decode (zmc m_X12_isStar) 2 = .ok (.aload_n 0, 1) := by decide +kernel
theorem d_X12_isStar_3 : decode (zmc m_X12_isStar) 3 = .ok (.getfield 124, 3) := by decide +kernel
theorem d_X12_isStar_6 : decode (zmc m_X12_isStar) 6 = .ok (.iconst 1, 1) := by decide +kernel
theorem d_X12_isStar_7 : decode (zmc m_X12_isStar) 7 = .ok (.isub, 1) := by decide +kernel
theorem d_X12_isStar_8 : decode (zmc m_X12_isStar) 8 = .ok (.invokestatic 127, 3) := by decide +kernel
theorem d_X12_isStar_11 : decode (zmc m_X12_isStar) 11 = .ok (.ireturn, 1) := by decide +kernel
theorem d_X12_isThrower_0 : decode (zmc m_X12_isThrower) 0 = .ok (.iload_n 1, 1) := by decide +kernel
theorem d_X12_isThrower_1 : decode (zmc m_X12_isThrower) 1 = .ok (.iconst 0, 1) := by decide +kernel
theorem d_X12_isThrower_2 : decode (zmc m_X12_isThrower) 2 = .ok (.aload_n 0, 1) := by decide +kernel
theorem d_X12_isThrower_3 : decode (zmc m_X12_isThrower) 3 = .ok (.getfield 131, 3) := by decide +kernel
theorem d_X12_isThrower_6 : decode (zmc m_X12_isThrower) 6 = .ok (.iconst 1, 1) := by decide +kernel
theorem d_X12_isThrower_7 : decode (zmc m_X12_isThrower) 7 = .ok (.isub, 1) := by decide +kernel
theorem d_X12_isThrower_8 : decode (zmc m_X12_isThrower) 8 = .ok (.invokestatic 127, 3) := by decide +kernel
theorem d_X12_isThrower_11 : decode (zmc m_X12_isThrower) 11 = .ok (.ireturn, 1) := by decide +kernel
theorem d_X12_starIn_0 : decode (zmc m_X12_starIn) 0 = .ok (.iconst 0, 1) := by decide +kernel
theorem d_X12_starIn_1 : decode (zmc m_X12_starIn) 1 = .ok (.istore_n 2, 1) := by decide +kernel
theorem d_X12_starIn_2 : decode (zmc m_X12_starIn) 2 = .ok (.iload_n 2, 1) := by decide +kernel
theorem d_X12_starIn_3 : decode (zmc m_X12_starIn) 3 = .ok (.aload_n 0, 1) := by decide +kernel
theorem d_X12_starIn_4 : decode (zmc m_X12_starIn) 4 = .ok (.getfield 124, 3) := by decide +kernel
theorem d_X12_starIn_7 : decode (zmc m_X12_starIn) 7 = .ok (.if_icmp .ge 21, 3) := by decide +kernel
theorem d_X12_starIn_10 : decode (zmc m_X12_starIn) 10 = .ok (.aload_n 0, 1) := by decide +kernel
theorem d_X12_starIn_11 : decode (zmc m_X12_starIn) 11 = .ok (.getfield 9, 3) := by decide +kernel
theorem d_X12_starIn_14 : decode (zmc m_X12_starIn) 14 = .ok (.iload_n 2, 1) := by decide +kernel
theorem d_X12_starIn_15 : decode (zmc m_X12_starIn) 15 = .ok (.iaload, 1) := by decide +kernel
theorem d_X12_starIn_16 : decode (zmc m_X12_starIn) 16 = .ok (.iload_n 1, 1) := by decide +kernel
theorem d_X12_starIn_17 : decode (zmc m_X12_starIn) 17 = .ok (.if_icmp .ne 5, 3) := by decide +kernel
theorem d_X12_starIn_20 : decode (zmc m_X12_starIn) 20 = .ok (.iload_n 2, 1) := by decide +kernel
theorem d_X12_starIn_21 : decode (zmc m_X12_starIn) 21 = .ok (.ireturn, 1) := by decide +kernel
theorem d_X12_starIn_22 : decode (zmc m_X12_starIn) 22 = .ok (.iinc 2 1, 3) := by decide +kernel
theorem d_X12_starIn_25 : decode (zmc m_X12_starIn) 25 = .ok (.goto (-23), 3) := by decide +kernel
theorem d_X12_starIn_28 : decode (zmc m_X12_starIn) 28 = .ok (.bipush (-2), 2) := by decide +kernel
theorem d_X12_starIn_30 : decode (zmc m_X12_starIn) 30 = .ok (.ireturn, 1) := by decide +kernel
/-! THE REFERENCE: what its cells hold of the class's, and its first methods -/
/-- the reference's cells hold the sky V -/
def zMs (I V : Nat → Nat → Int32) : Prop :=
  (I 64 1 = V 1 3 ∧ I 64 8 = V 1 4 ∧ I 64 11 = V 1 5) ∧
  (I 65 = V 3 ∧ I 66 = V 4 ∧ I 67 = V 5 ∧ I 68 = V 6 ∧ I 69 = V 7 ∧ I 70 = V 8 ∧ I 71 = V 9 ∧ I 72 = V 10 ∧ I 73 = V 11) ∧
  (I 74 0 = V 12 0 ∧ I 74 1 = V 13 0 ∧ I 74 2 = V 14 0) ∧ I 92 = V 15
/-- all numbers are as they may be; who isn't there is neither up nor gone -/
def zBd (V : Nat → Nat → Int32) (ns nt nh : Nat) : Prop := (∀ j k : Nat, j < 12 → k < zHold ns nt nh (nI j) → zMay (nI j) (V (3 + j) k)) ∧ ∀ k, ns ≤ k → V 7 k = 0 ∧ V 8 k = 0
/-- the class's half as it was -/
def zFrm (I J : Nat → Nat → Int32) : Prop := ∀ a, a < 64 → J a = I a
theorem zFrm_up {I J : Nat → Nat → Int32} {a : Nat} {f : Nat → Int32} (h : zFrm I J) (ha : 64 ≤ a) : zFrm I (zup J a f) := fun b hb => by rw [zup_ne (by omega)]; exact h b hb
theorem zFrm_refl {I : Nat → Nat → Int32} : zFrm I I := fun _ _ => rfl
theorem zle_pred {x : Int32} {n : Nat} (hn : n < 2 ^ 31) : x ≤ nI n - 1 ↔ x < nI n := by
  cases n with
  | zero =>
    rw [nI_0, show (0 : Int32) - 1 = -1 from by decide, Int32.le_iff_toInt_le, Int32.lt_iff_toInt_lt]
    simp
    omega
  | succ m =>
    rw [nI_pred, Int32.le_iff_toInt_le, Int32.lt_iff_toInt_lt, nI_toInt (by omega), nI_toInt hn]
    omega
def zBo : Nat → Int32 → Option Int32
  | 0, _ => none
  | m + 1, x => if x = 0 then some 0 else (zBo m (x &&& (x - 1))).map (fun r => 1 + r)
set_option maxRecDepth 20000 in
theorem zBo_all : ∀ j, j < 1024 → zBo 12 (nI j) = some (zbc (nI j)) := by decide +kernel
theorem zBd_at {V : Nat → Nat → Int32} {ns nt nh : Nat} (hB : zBd V ns nt nh) (j : Nat) {k n : Nat} (hj : j < 12) (hn : zHold ns nt nh (nI j) = n) (hk : k < n) : zstv 0 j ≤ V (3 + j) k ∧ V (3 + j) k ≤ zstv 1 j := by
  have h := (hB.1 j k hj (by rw [hn]; exact hk)).2
  rwa [zcl_n (by omega)] at h
theorem z01 {x : Int32} (h : (0 : Int32) ≤ x ∧ x ≤ 1) : x = 0 ∨ x = 1 := by
  obtain ⟨j, hj, rfl⟩ := zn1 (x := x) (n := 2) (by omega) h.1 (by have : nI 2 = 2 := rfl; grind)
  match j, hj with
  | 0, _ => exact Or.inl rfl
  | 1, _ => exact Or.inr rfl
section S39
variable {g : zG} {l : Launch} {d : Nat} {I V : Nat → Nat → Int32} {L : Nat → Nat → Int64} {fs : Nat × Nat × Option Nat} {ns nt nh : Nat}
theorem zb_up (hB : zBd V ns nt nh) (k : Nat) : V 7 k = 0 ∨ V 7 k = 1 := by
  by_cases h : k < ns
  · exact z01 (zBd_at hB 4 (by decide) rfl h)
  · exact Or.inl (hB.2 k (by omega)).1
theorem zb_gone (hB : zBd V ns nt nh) (k : Nat) : V 8 k = 0 ∨ V 8 k = 1 := by
  by_cases h : k < ns
  · exact z01 (zBd_at hB 5 (by decide) rfl h)
  · exact Or.inl (hB.2 k (by omega)).2
theorem sp_X12_in (hd : 1 ≤ d) {v a b : Int32} : zPure g l d m_X12_in [.int v, .int a, .int b] I L fs (.int (bi (a ≤ v ∧ v ≤ b))) := by
  refine zSp_of (lv := [(0, .int v), (1, .int a), (2, .int b)]) k_X12_in rfl (Nat.le_of_ble_eq_true rfl) ?_
  refine zIloadN d_X12_in_0 rfl rfl (q := 1) rfl ?_
  refine zIloadN d_X12_in_1 rfl rfl (q := 2) rfl ?_
  refine zIcmp_lt d_X12_in_2 (tgt := 14) (q := 5) (by decide) rfl (fun h2 => ?_) (fun h2 => ?_)
  · refine zIconst d_X12_in_14 (v := 0) ic_0 (q := 15) rfl ?_
    refine zIret d_X12_in_15 rfl (by first | exact zn_bi | rfl) rfl ?_
    exact zPi (by unfold bi; grind)
  · refine zIloadN d_X12_in_5 rfl rfl (q := 6) rfl ?_
    refine zIloadN d_X12_in_6 rfl rfl (q := 7) rfl ?_
    refine zIcmp_gt d_X12_in_7 (tgt := 14) (q := 10) (by decide) rfl (fun h7 => ?_) (fun h7 => ?_)
    · refine zIconst d_X12_in_14 (v := 0) ic_0 (q := 15) rfl ?_
      refine zIret d_X12_in_15 rfl (by first | exact zn_bi | rfl) rfl ?_
      exact zPi (by unfold bi; grind)
    · refine zIconst d_X12_in_10 (v := 1) ic_1 (q := 11) rfl ?_
      refine zGoto d_X12_in_11 (q := 15) (by decide) ?_
      refine zIret d_X12_in_15 rfl (by first | exact zn_bi | rfl) rfl ?_
      exact zPi (by unfold bi; grind)
theorem sp_X12_has (hd : 1 ≤ d) {v a : Int32} : zPure g l d m_X12_has [.int v, .int a] I L fs (.int (bi ((v >>> (a &&& 31)) &&& 1 = 1))) := by
  refine zSp_of (lv := [(0, .int v), (1, .int a)]) k_X12_has rfl (Nat.le_of_ble_eq_true rfl) ?_
  refine zIloadN d_X12_has_0 rfl rfl (q := 1) rfl ?_
  refine zIloadN d_X12_has_1 rfl rfl (q := 2) rfl ?_
  refine zIshr d_X12_has_2 (q := 3) rfl ?_
  refine zIconst d_X12_has_3 (v := 1) ic_1 (q := 4) rfl ?_
  refine zIand d_X12_has_4 (q := 5) rfl ?_
  refine zIconst d_X12_has_5 (v := 1) ic_1 (q := 6) rfl ?_
  refine zIcmp_ne d_X12_has_6 (tgt := 13) (q := 9) (by decide) rfl (fun h6 => ?_) (fun h6 => ?_)
  · refine zIconst d_X12_has_13 (v := 0) ic_0 (q := 14) rfl ?_
    refine zIret d_X12_has_14 rfl (by first | exact zn_bi | rfl) rfl ?_
    exact zPi (by unfold bi; grind)
  · refine zIconst d_X12_has_9 (v := 1) ic_1 (q := 10) rfl ?_
    refine zGoto d_X12_has_10 (q := 14) (by decide) ?_
    refine zIret d_X12_has_14 rfl (by first | exact zn_bi | rfl) rfl ?_
    exact zPi (by unfold bi; grind)
theorem sp_bitsOf (hd : 1 ≤ d) {x r : Int32} (h : zBo 12 x = some r) : zPure g l d m_X12_bitsOf [.int x] I L fs (.int r) := by
  have loop : ∀ (m : Nat) (x0 x n r : Int32), zBo m x = some r → zA g l d m_X12_bitsOf I L fs 4 [(2, .int x), (1, .int n), (0, .int x0)] (zP (.int (n + r)) (zU I L fs)) := by
    intro m
    induction m with
    | zero => intro x0 x n r h; exact absurd h (by simp [zBo])
    | succ m ih =>
      intro x0 x n r h
      unfold zBo at h
      refine zIloadN d_X12_bitsOf_4 rfl rfl (q := 5) rfl ?_
      refine zIf_eq d_X12_bitsOf_5 (tgt := 20) (q := 8) (by decide) rfl (fun h5 => ?_) (fun h5 => ?_)
      · rw [if_pos h5] at h
        refine zIloadN d_X12_bitsOf_20 rfl rfl (q := 21) rfl ?_
        refine zIret d_X12_bitsOf_21 rfl rfl rfl ?_
        exact zPi (by simp only [Option.some.injEq] at h; rw [← h]; simp)
      · rw [if_neg h5] at h
        obtain ⟨r1, e1, e2⟩ := Option.map_eq_some_iff.mp h
        refine zIinc d_X12_bitsOf_8 rfl (show n + Int32.ofInt 1 = n + 1 from rfl) (by decide) rfl (q := 11) rfl ?_
        refine zIloadN d_X12_bitsOf_11 rfl rfl (q := 12) rfl ?_
        refine zIloadN d_X12_bitsOf_12 rfl rfl (q := 13) rfl ?_
        refine zIconst d_X12_bitsOf_13 (v := 1) ic_1 (q := 14) rfl ?_
        refine zIsub d_X12_bitsOf_14 (q := 15) rfl ?_
        refine zIand d_X12_bitsOf_15 (q := 16) rfl ?_
        refine zIstoreN d_X12_bitsOf_16 rfl (by decide) rfl (q := 17) rfl ?_
        refine zGoto d_X12_bitsOf_17 (q := 4) (by decide) ?_
        refine zSub [0, 1, 2] rfl ?_
        have e3 := ih x0 (x &&& (x - 1)) (n + 1) r1 e1
        rw [show n + 1 + r1 = n + r from by rw [← e2, Int32.add_assoc]] at e3
        exact e3
  refine zSp_of (lv := [(0, .int x)]) k_X12_bitsOf rfl (Nat.le_of_ble_eq_true rfl) ?_
  refine zIconst d_X12_bitsOf_0 (v := 0) ic_0 (q := 1) rfl ?_
  refine zIstoreN d_X12_bitsOf_1 rfl (by decide) rfl (q := 2) rfl ?_
  refine zIloadN d_X12_bitsOf_2 rfl rfl (q := 3) rfl ?_
  refine zIstoreN d_X12_bitsOf_3 rfl (by decide) rfl (q := 4) rfl ?_
  refine zSub [0, 1, 2] rfl ?_
  have e3 := loop 12 x x 0 r h
  rw [Int32.zero_add] at e3
  exact e3
theorem sp_X12_bitsOf (hd : 1 ≤ d) {j : Nat} (h : j < 1024) : zPure g l d m_X12_bitsOf [.int (nI j)] I L fs (.int (zbc (nI j))) := sp_bitsOf hd (zBo_all j h)
theorem sp_X12_isStar (hd : 2 ≤ d) (hM : zMs I V) (hK : zSky V ns nt nh) {s : Int32} : zPure g l d m_X12_isStar [.ref 64, .int s] I L fs (.int (bi (0 ≤ s ∧ s < nI ns))) := by
  have h10 := hK.2.1
  refine zSp_of (lv := [(0, .ref 64), (1, .int s)]) k_X12_isStar rfl (Nat.le_of_ble_eq_true rfl) ?_
  refine zIloadN d_X12_isStar_0 rfl rfl (q := 1) rfl ?_
  refine zIconst d_X12_isStar_1 (v := 0) ic_0 (q := 2) rfl ?_
  refine zAloadN d_X12_isStar_2 rfl rfl (q := 3) rfl ?_
  refine zGetI d_X12_isStar_3 ff_X12_124 sh_64 (by decide) (q := 6) rfl ?_
  refine zIconst d_X12_isStar_6 (v := 1) ic_1 (q := 7) rfl ?_
  refine zIsub d_X12_isStar_7 (q := 8) rfl ?_
  refine zCallSP d_X12_isStar_8 ml_X12_127 k_X12_in kt_X12_in (sp_X12_in (d := d - 1) (by omega) ) rfl rfl (Nat.le_of_ble_eq_true rfl) (by decide) (by omega) zns100 (q := 11) rfl ?_
  refine zIret d_X12_isStar_11 rfl (by first | exact zn_bi | rfl) rfl ?_
  exact zPi (bi_iff (by rw [hM.1.1, hK.1.1, zle_pred (by omega)]))
theorem sp_X12_isThrower (hd : 2 ≤ d) (hM : zMs I V) (hK : zSky V ns nt nh) {s : Int32} : zPure g l d m_X12_isThrower [.ref 64, .int s] I L fs (.int (bi (0 ≤ s ∧ s < nI nt))) := by
  have h10 := hK.2.2.1
  refine zSp_of (lv := [(0, .ref 64), (1, .int s)]) k_X12_isThrower rfl (Nat.le_of_ble_eq_true rfl) ?_
  refine zIloadN d_X12_isThrower_0 rfl rfl (q := 1) rfl ?_
  refine zIconst d_X12_isThrower_1 (v := 0) ic_0 (q := 2) rfl ?_
  refine zAloadN d_X12_isThrower_2 rfl rfl (q := 3) rfl ?_
  refine zGetI d_X12_isThrower_3 ff_X12_131 sh_64 (by decide) (q := 6) rfl ?_
  refine zIconst d_X12_isThrower_6 (v := 1) ic_1 (q := 7) rfl ?_
  refine zIsub d_X12_isThrower_7 (q := 8) rfl ?_
  refine zCallSP d_X12_isThrower_8 ml_X12_127 k_X12_in kt_X12_in (sp_X12_in (d := d - 1) (by omega) ) rfl rfl (Nat.le_of_ble_eq_true rfl) (by decide) (by omega) zns100 (q := 11) rfl ?_
  refine zIret d_X12_isThrower_11 rfl (by first | exact zn_bi | rfl) rfl ?_
  exact zPi (bi_iff (by rw [hM.1.2.1, hK.1.2.1, zle_pred (by omega)]))
theorem sp_X12_isCell (hd : 2 ≤ d) {s : Int32} : zPure g l d m_X12_isCell [.int s] I L fs (.int (bi (zMay 0 s))) := by
  refine zSp_of (lv := [(0, .int s)]) k_X12_isCell rfl (Nat.le_of_ble_eq_true rfl) ?_
  refine zIloadN d_X12_isCell_0 rfl rfl (q := 1) rfl ?_
  refine zIconst d_X12_isCell_1 (v := 0) ic_0 (q := 2) rfl ?_
  refine zBipush d_X12_isCell_2 (v := 47) bc_47 (q := 4) rfl ?_
  refine zCallSP d_X12_isCell_4 ml_X12_127 k_X12_in kt_X12_in (sp_X12_in (d := d - 1) (by omega) ) rfl rfl (Nat.le_of_ble_eq_true rfl) (by decide) (by omega) zns100 (q := 7) rfl ?_
  refine zIret d_X12_isCell_7 rfl (by first | exact zn_bi | rfl) rfl ?_
  exact zPi (bi_iff ⟨fun h => ⟨by decide, h⟩, fun h => h.2⟩)
theorem sp_X12_areStarThrower (hd : 3 ≤ d) (hM : zMs I V) (hK : zSky V ns nt nh) {st : Int32} : zPure g l d m_X12_areStarThrower [.ref 64, .int st] I L fs (.int (bi (zThr ns nt st))) := by
  refine zSp_of (lv := [(0, .ref 64), (1, .int st)]) k_X12_areStarThrower rfl (Nat.le_of_ble_eq_true rfl) ?_
  refine zIloadN d_X12_areStarThrower_0 rfl rfl (q := 1) rfl ?_
  refine zIf_lt d_X12_areStarThrower_1 (tgt := 30) (q := 4) (by decide) rfl (fun h1 => ?_) (fun h1 => ?_)
  · refine zIconst d_X12_areStarThrower_30 (v := 0) ic_0 (q := 31) rfl ?_
    refine zIret d_X12_areStarThrower_31 rfl (by first | exact zn_bi | rfl) rfl ?_
    first | exact zPi (bi_t ⟨zn_ge hj, (bi_n0.mp h12).2, (bi_n0.mp h23).2⟩).symm | exact zPi (bi_f (fun q => bi_0.mp h23 ⟨hr0, q.2.2⟩)).symm | exact zPi (bi_f (fun q => bi_0.mp h12 ⟨hq0, q.2.1⟩)).symm | exact zPi (bi_f (fun q => by have := q.1; grind)).symm
  · obtain ⟨j, hj, rfl⟩ := zn0 h1
    have hq : nI j / 10 = nI (j / 10) := pk_div hj (by decide) (by decide)
    have hr : nI j - nI j / 10 * 10 = nI (j % 10) := pk_rem hj (by decide) (by decide)
    have hq0 : (0 : Int32) ≤ nI j / 10 := by rw [hq]; exact zn_ge (by omega)
    have hr0 : (0 : Int32) ≤ nI j - nI j / 10 * 10 := by rw [hr]; exact zn_ge (by omega)
    refine zAloadN d_X12_areStarThrower_4 rfl rfl (q := 5) rfl ?_
    refine zIloadN d_X12_areStarThrower_5 rfl rfl (q := 6) rfl ?_
    refine zBipush d_X12_areStarThrower_6 (v := 10) bc_10 (q := 8) rfl ?_
    refine zIdiv d_X12_areStarThrower_8 (by decide) (q := 9) rfl ?_
    refine zCallVP d_X12_areStarThrower_9 ml_X12_134 k_X12_isStar ki_X12_isStar ks_X12_isStar (sp_X12_isStar (d := d - 1) (by omega) hM hK) rfl rfl sh_64 (by decide) rfl (by decide) (Nat.le_of_ble_eq_true rfl) (by decide) (by omega) zns100 (q := 12) rfl ?_
    refine zIf_eq d_X12_areStarThrower_12 (tgt := 30) (q := 15) (by decide) rfl (fun h12 => ?_) (fun h12 => ?_)
    · refine zIconst d_X12_areStarThrower_30 (v := 0) ic_0 (q := 31) rfl ?_
      refine zIret d_X12_areStarThrower_31 rfl (by first | exact zn_bi | rfl) rfl ?_
      first | exact zPi (bi_t ⟨zn_ge hj, (bi_n0.mp h12).2, (bi_n0.mp h23).2⟩).symm | exact zPi (bi_f (fun q => bi_0.mp h23 ⟨hr0, q.2.2⟩)).symm | exact zPi (bi_f (fun q => bi_0.mp h12 ⟨hq0, q.2.1⟩)).symm | exact zPi (bi_f (fun q => by have := q.1; grind)).symm
    · refine zAloadN d_X12_areStarThrower_15 rfl rfl (q := 16) rfl ?_
      refine zIloadN d_X12_areStarThrower_16 rfl rfl (q := 17) rfl ?_
      refine zBipush d_X12_areStarThrower_17 (v := 10) bc_10 (q := 19) rfl ?_
      refine zIrem d_X12_areStarThrower_19 (by decide) (q := 20) rfl ?_
      refine zCallVP d_X12_areStarThrower_20 ml_X12_138 k_X12_isThrower ki_X12_isThrower ks_X12_isThrower (sp_X12_isThrower (d := d - 1) (by omega) hM hK) rfl rfl sh_64 (by decide) rfl (by decide) (Nat.le_of_ble_eq_true rfl) (by decide) (by omega) zns100 (q := 23) rfl ?_
      refine zIf_eq d_X12_areStarThrower_23 (tgt := 30) (q := 26) (by decide) rfl (fun h23 => ?_) (fun h23 => ?_)
      · refine zIconst d_X12_areStarThrower_30 (v := 0) ic_0 (q := 31) rfl ?_
        refine zIret d_X12_areStarThrower_31 rfl (by first | exact zn_bi | rfl) rfl ?_
        first | exact zPi (bi_t ⟨zn_ge hj, (bi_n0.mp h12).2, (bi_n0.mp h23).2⟩).symm | exact zPi (bi_f (fun q => bi_0.mp h23 ⟨hr0, q.2.2⟩)).symm | exact zPi (bi_f (fun q => bi_0.mp h12 ⟨hq0, q.2.1⟩)).symm | exact zPi (bi_f (fun q => by have := q.1; grind)).symm
      · refine zIconst d_X12_areStarThrower_26 (v := 1) ic_1 (q := 27) rfl ?_
        refine zGoto d_X12_areStarThrower_27 (q := 31) (by decide) ?_
        refine zIret d_X12_areStarThrower_31 rfl (by first | exact zn_bi | rfl) rfl ?_
        first | exact zPi (bi_t ⟨zn_ge hj, (bi_n0.mp h12).2, (bi_n0.mp h23).2⟩).symm | exact zPi (bi_f (fun q => bi_0.mp h23 ⟨hr0, q.2.2⟩)).symm | exact zPi (bi_f (fun q => bi_0.mp h12 ⟨hq0, q.2.1⟩)).symm | exact zPi (bi_f (fun q => by have := q.1; grind)).symm
theorem sp_X12_starIn (hd : 1 ≤ d) (hM : zMs I V) (hK : zSky V ns nt nh) {cell : Int32} : zPure g l d m_X12_starIn [.ref 64, .int cell] I L fs (.int (zfind (V 3) cell ns 0)) := by
  obtain ⟨⟨k1, k2, k3⟩, hns, hnt, hnh⟩ := hK
  have m1 : I 64 1 = nI ns := hM.1.1.trans k1
  have mc : I 65 = V 3 := hM.2.1.1
  have loop : ∀ k, k ≤ ns → zfind (V 3) cell ns k = zfind (V 3) cell ns 0 → zA g l d m_X12_starIn I L fs 2 [(2, .int (nI k)), (0, .ref 64), (1, .int cell)] (zP (.int (zfind (V 3) cell ns 0)) (zU I L fs)) := by
    refine zloop ns (fun k hk ih hx => ?_)
    refine zIloadN d_X12_starIn_2 rfl rfl (q := 3) rfl ?_
    refine zAloadN d_X12_starIn_3 rfl rfl (q := 4) rfl ?_
    refine zGetI d_X12_starIn_4 ff_X12_124 sh_64 (by decide) (q := 7) rfl ?_
    refine zIcmp_ge d_X12_starIn_7 (tgt := 28) (q := 10) (by decide) rfl (fun h7 => ?_) (fun h7 => ?_)
    · have e := nle (m1 ▸ h7)
      refine zBipush d_X12_starIn_28 (v := -2) bc_m2 (q := 30) rfl ?_
      refine zIret d_X12_starIn_30 rfl rfl rfl ?_
      exact zPi (by rw [← hx, zfind_end e])
    · have hlt := nnle (m1 ▸ h7)
      rw [zfind_step hlt, ← congrFun mc k] at hx
      refine zAloadN d_X12_starIn_10 rfl rfl (q := 11) rfl ?_
      refine zGetR d_X12_starIn_11 ff_X12_9 sh_64 (by decide) r_64_2 (q := 14) rfl ?_
      refine zIloadN d_X12_starIn_14 rfl rfl (q := 15) rfl ?_
      refine zIald d_X12_starIn_15 sh_65 (by decide) rfl (by omega) (q := 16) rfl ?_
      refine zIloadN d_X12_starIn_16 rfl rfl (q := 17) rfl ?_
      refine zIcmp_ne d_X12_starIn_17 (tgt := 22) (q := 20) (by decide) rfl (fun h17 => ?_) (fun h17 => ?_)
      · refine zIinc d_X12_starIn_22 rfl (zinc _) (by decide) rfl (q := 25) rfl ?_
        refine zGoto d_X12_starIn_25 (q := 2) (by decide) ?_
        refine zSub [0, 1, 2] rfl ?_
        exact ih hlt (by rw [if_neg h17] at hx; exact hx)
      · refine zIloadN d_X12_starIn_20 rfl rfl (q := 21) rfl ?_
        refine zIret d_X12_starIn_21 rfl rfl rfl ?_
        exact zPi (by rw [← hx, if_pos (by simpa using h17)])
  refine zSp_of (lv := [(0, .ref 64), (1, .int cell)]) k_X12_starIn rfl (Nat.le_of_ble_eq_true rfl) ?_
  refine zIconst d_X12_starIn_0 (v := 0) ic_0 (q := 1) rfl ?_
  refine zIstoreN d_X12_starIn_1 rfl (by decide) rfl (q := 2) rfl ?_
  refine zSub [0, 1, 2] rfl ?_
  exact loop 0 (Nat.zero_le _) rfl
theorem zfind_neg {f : Nat → Int32} {c : Int32} {n : Nat} (hn : n < 2 ^ 31) : zfind f c n 0 < 0 ↔ zfind f c n 0 = -2 := by
  rcases zfind_cases f c n 0 (Nat.zero_le _) with ⟨h, -⟩ | ⟨j, -, hj, -, h, -⟩
  · rw [h]; simp
  · rw [h]
    have h0 := zn_ge (k := j) (by omega)
    constructor
    · intro q; grind
    · intro q; rw [q] at h0; exact absurd h0 (by decide)
theorem sp_X12_isFree (hd : 2 ≤ d) (hM : zMs I V) (hK : zSky V ns nt nh) {cell star : Int32} : zPure g l d m_X12_isFree [.ref 64, .int cell, .int star] I L fs (.int (bi (¬ (¬ zfind (V 3) cell ns 0 = -2 ∧ ¬ zfind (V 3) cell ns 0 = star)))) := by
  have hz := zfind_neg (f := V 3) (c := cell) (n := ns) (by have := hK.2.1; omega)
  refine zSp_of (lv := [(0, .ref 64), (1, .int cell), (2, .int star)]) k_X12_isFree rfl (Nat.le_of_ble_eq_true rfl) ?_
  refine zAloadN d_X12_isFree_0 rfl rfl (q := 1) rfl ?_
  refine zIloadN d_X12_isFree_1 rfl rfl (q := 2) rfl ?_
  refine zCallVP d_X12_isFree_2 ml_X12_141 k_X12_starIn ki_X12_starIn ks_X12_starIn (sp_X12_starIn (d := d - 1) (by omega) hM hK) rfl rfl sh_64 (by decide) rfl (by decide) (Nat.le_of_ble_eq_true rfl) (by decide) (by omega) zns100 (q := 5) rfl ?_
  refine zIstoreN d_X12_isFree_5 rfl (by decide) rfl (q := 6) rfl ?_
  refine zIloadN d_X12_isFree_6 rfl rfl (q := 7) rfl ?_
  refine zIf_lt d_X12_isFree_7 (tgt := 15) (q := 10) (by decide) rfl (fun h7 => ?_) (fun h7 => ?_)
  · refine zIconst d_X12_isFree_15 (v := 1) ic_1 (q := 16) rfl ?_
    refine zGoto d_X12_isFree_16 (q := 20) (by decide) ?_
    refine zIret d_X12_isFree_20 rfl (by first | exact zn_bi | rfl) rfl ?_
    exact zPi (by unfold bi; grind)
  · refine zIloadN d_X12_isFree_10 rfl rfl (q := 11) rfl ?_
    refine zIloadN d_X12_isFree_11 rfl rfl (q := 12) rfl ?_
    refine zIcmp_ne d_X12_isFree_12 (tgt := 19) (q := 15) (by decide) rfl (fun h12 => ?_) (fun h12 => ?_)
    · refine zIconst d_X12_isFree_19 (v := 0) ic_0 (q := 20) rfl ?_
      refine zIret d_X12_isFree_20 rfl (by first | exact zn_bi | rfl) rfl ?_
      exact zPi (by unfold bi; grind)
    · refine zIconst d_X12_isFree_15 (v := 1) ic_1 (q := 16) rfl ?_
      refine zGoto d_X12_isFree_16 (q := 20) (by decide) ?_
      refine zIret d_X12_isFree_20 rfl (by first | exact zn_bi | rfl) rfl ?_
      exact zPi (by unfold bi; grind)
end S39

