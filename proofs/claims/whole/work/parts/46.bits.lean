/-! SETS OF STARS AS NUMBERS -/
theorem zand (a b : Nat) : nI a &&& nI b = nI (a &&& b) := by
  apply Int32.toBitVec_inj.mp
  show BitVec.ofNat 32 a &&& BitVec.ofNat 32 b = BitVec.ofNat 32 (a &&& b)
  rw [BitVec.ofNat_and]
theorem zorb (a b : Nat) : nI a ||| nI b = nI (a ||| b) := by
  apply Int32.toBitVec_inj.mp
  show BitVec.ofNat 32 a ||| BitVec.ofNat 32 b = BitVec.ofNat 32 (a ||| b)
  rw [BitVec.ofNat_or]
theorem zxor (a b : Nat) : nI a ^^^ nI b = nI (a ^^^ b) := by
  apply Int32.toBitVec_inj.mp
  show BitVec.ofNat 32 a ^^^ BitVec.ofNat 32 b = BitVec.ofNat 32 (a ^^^ b)
  rw [BitVec.ofNat_xor]
theorem zm1 : (-1 : Int32) = nI 4294967295 := by decide +kernel
theorem znot (a : Nat) : nI a ^^^ (-1) = nI (a ^^^ 4294967295) := by rw [zm1, zxor]
theorem zone' : ∀ k, k < 31 → (1 : Int32) <<< (nI k &&& 31) = nI (2 ^ k) := by decide +kernel
theorem zone {k : Nat} (h : k < 31) : (1 : Int32) <<< (nI k &&& 31) = nI (2 ^ k) := zone' k h
theorem zzero' : ∀ k, k < 31 → (0 : Int32) <<< (nI k &&& 31) = 0 := by decide +kernel
theorem zall1 {k : Nat} (h : k < 32) : (4294967295 : Nat).testBit k = true := by
  have : (4294967295 : Nat) = 2 ^ 32 - 1 := rfl
  rw [this, Nat.testBit_two_pow_sub_one]
  exact decide_eq_true h
def zN (p : Nat → Bool) : Nat → Nat
  | 0 => 0
  | n + 1 => zN p n + (if p n = true then 2 ^ n else 0)
theorem zN_lt (p : Nat → Bool) : ∀ n, zN p n < 2 ^ n
  | 0 => Nat.one_pos
  | n + 1 => by
    have := zN_lt p n
    show zN p n + (if p n = true then 2 ^ n else 0) < 2 ^ (n + 1)
    rw [Nat.pow_succ]
    split <;> omega
theorem zN_bit (p : Nat → Bool) : ∀ n k, (zN p n).testBit k = (decide (k < n) && p k)
  | 0, k => by show (0 : Nat).testBit k = _; simp
  | n + 1, k => by
    have hl := zN_lt p n
    have ih := zN_bit p n k
    show (zN p n + (if p n = true then 2 ^ n else 0)).testBit k = _
    rcases Nat.lt_trichotomy k n with h | h | h
    · have e : (zN p n + (if p n = true then 2 ^ n else 0)).testBit k = (zN p n).testBit k := by
        split
        · rw [Nat.add_comm, Nat.testBit_two_pow_add_gt h]
        · rfl
      rw [e, ih, decide_eq_true h, decide_eq_true (by omega : k < n + 1)]
    · subst h
      have e0 : (zN p k).testBit k = false := Nat.testBit_lt_two_pow hl
      cases hp : p k with
      | true => rw [if_pos rfl, Nat.add_comm, Nat.testBit_two_pow_add_eq, e0]; simp
      | false => rw [if_neg (by simp), Nat.add_zero, e0]; simp
    · have hl2 := zN_lt p (n + 1)
      have : (zN p n + (if p n = true then 2 ^ n else 0)).testBit k = false := Nat.testBit_lt_two_pow (Nat.lt_of_lt_of_le hl2 (Nat.pow_le_pow_right (by decide) h))
      rw [this, decide_eq_false (by omega)]
      rfl
theorem zN_ext {p : Nat → Bool} {n x : Nat} (hx : x < 2 ^ n) (h : ∀ k, k < n → x.testBit k = p k) : x = zN p n := by
  apply Nat.eq_of_testBit_eq
  intro k
  rw [zN_bit]
  by_cases hk : k < n
  · rw [h k hk, decide_eq_true hk]; rfl
  · rw [decide_eq_false hk, Nat.testBit_lt_two_pow (Nat.lt_of_lt_of_le hx (Nat.pow_le_pow_right (by decide) (by omega)))]
    rfl
theorem zN_congr {p p' : Nat → Bool} {n : Nat} (h : ∀ k, k < n → p k = p' k) : zN p n = zN p' n :=
  zN_ext (zN_lt p n) (fun k hk => by rw [zN_bit, decide_eq_true hk, Bool.true_and]; exact h k hk)
theorem zN_1024 {p : Nat → Bool} {n : Nat} (hn : n ≤ 10) : zN p n < 1024 := Nat.lt_of_lt_of_le (zN_lt p n) (Nat.pow_le_pow_right (n := 2) (by decide) hn)
/-- one more -/
theorem zN_or {p : Nat → Bool} {k : Nat} (hk : k < 31) : nI (zN p k) ||| ((1 : Int32) <<< (nI k &&& 31)) = nI (zN p k + 2 ^ k) := by
  rw [zone hk, zorb]
  congr 1
  have hl := zN_lt p k
  apply Nat.eq_of_testBit_eq
  intro j
  rw [Nat.testBit_or, Nat.testBit_two_pow]
  rcases Nat.lt_trichotomy j k with h | h | h
  · rw [Nat.add_comm, Nat.testBit_two_pow_add_gt h, decide_eq_false (by omega), Bool.or_false]
  · subst h
    rw [Nat.add_comm, Nat.testBit_two_pow_add_eq, Nat.testBit_lt_two_pow hl]
    simp
  · rw [Nat.testBit_lt_two_pow (Nat.lt_trans hl (Nat.pow_lt_pow_right (by decide) h)), decide_eq_false (by omega)]
    have : zN p k + 2 ^ k < 2 ^ j := Nat.lt_of_lt_of_le (by rw [Nat.pow_succ]; omega : zN p k + 2 ^ k < 2 ^ (k + 1)) (Nat.pow_le_pow_right (by decide) h)
    rw [Nat.testBit_lt_two_pow this]
    rfl
theorem zN_fold {c : Nat → Prop} [∀ k, Decidable (c k)] {n : Nat} (hn : n ≤ 31) : zfor (fun k s => if c k then s ||| ((1 : Int32) <<< (nI k &&& 31)) else s) n 0 0 = nI (zN (fun k => decide (c k)) n) := by
  have h : ∀ k, k ≤ n → zfor (fun k s => if c k then s ||| ((1 : Int32) <<< (nI k &&& 31)) else s) n k (nI (zN (fun k => decide (c k)) k)) = nI (zN (fun k => decide (c k)) n) := by
    refine zloop n (fun k hk ih => ?_)
    rcases Nat.eq_or_lt_of_le hk with rfl | hlt
    · rw [zfor_end (Nat.le_refl _)]
    · rw [zfor_step hlt, ← ih hlt]
      congr 1
      by_cases q : c k
      · rw [if_pos q, zN_or (by omega)]
        congr 1
        show _ = zN _ k + (if decide (c k) = true then 2 ^ k else 0)
        rw [if_pos (decide_eq_true q)]
      · rw [if_neg q]
        congr 1
        show _ = zN _ k + (if decide (c k) = true then 2 ^ k else 0)
        rw [if_neg (by simpa using q)]
        rfl
  exact h 0 (Nat.zero_le _)
theorem zbits_N {f : Nat → Int32} {n : Nat} (hn : n ≤ 31) : zbits f n = nI (zN (fun k => decide (¬ f k = 0)) n) := by
  rw [← zN_fold hn]
  unfold zbits
  exact zfor_congr (fun j t _ _ => by by_cases q : f j = 0 <;> simp [q])
theorem zsteer_N {V : Nat → Nat → Int32} {nh : Nat} {up : Int32} (hn : nh ≤ 31) : zSteer V nh up = nI (zN (fun k => decide (¬ V 11 k &&& up = 0)) nh) := by
  rw [← zN_fold hn]
  unfold zSteer
  exact zfor_congr (fun j t _ _ => by by_cases q : V 11 j &&& up = 0 <;> simp [q])
/-- a bit tried -/
theorem zbit' : ∀ k, k < 31 → ∀ b : Bool, ((if b = true then nI (2 ^ k) else 0) >>> (nI k &&& 31)) &&& 1 = (if b = true then 1 else 0) := by decide +kernel
theorem zshr' : ∀ k, k < 31 → ((nI k &&& 31).toBitVec.smod 32).toNat = k := by decide +kernel
theorem zbit {x k : Nat} (hx : x < 2 ^ 31) (hk : k < 31) : (nI x >>> (nI k &&& 31)) &&& 1 = if x.testBit k = true then 1 else 0 := by
  rw [pk_shrN hx (nI k &&& 31) k (zshr' k hk), show (1 : Int32) = nI 1 from rfl, zand]
  have e : x / 2 ^ k &&& 1 = if x.testBit k = true then 1 else 0 := by
    rw [Nat.and_one_is_mod, Nat.testBit_eq_decide_div_mod_eq]
    by_cases q : x / 2 ^ k % 2 = 1
    · rw [q]; simp
    · have : x / 2 ^ k % 2 = 0 := by omega
      rw [this]; simp
  rw [e]
  split <;> rfl
theorem zbit_1 {x k : Nat} (hx : x < 2 ^ 31) (hk : k < 31) : (nI x >>> (nI k &&& 31)) &&& 1 = 1 ↔ x.testBit k = true := by
  rw [zbit hx hk]; split <;> simp_all
theorem zbit_0 {x k : Nat} (hx : x < 2 ^ 31) (hk : k < 31) : (nI x >>> (nI k &&& 31)) &&& 1 = 0 ↔ x.testBit k = false := by
  rw [zbit hx hk]; split <;> simp_all
def zcnt (p : Nat → Bool) : Nat → Nat
  | 0 => 0
  | n + 1 => zcnt p n + (if p n = true then 1 else 0)
theorem zcnt_congr {p p' : Nat → Bool} : ∀ {n : Nat}, (∀ k, k < n → p k = p' k) → zcnt p n = zcnt p' n
  | 0, _ => rfl
  | n + 1, h => by
    show zcnt p n + (if p n = true then 1 else 0) = zcnt p' n + (if p' n = true then 1 else 0)
    rw [zcnt_congr (fun k hk => h k (by omega)), h n (by omega)]
theorem zcnt_le (p : Nat → Bool) : ∀ n, zcnt p n ≤ n
  | 0 => Nat.le_refl _
  | n + 1 => by
    have := zcnt_le p n
    show zcnt p n + (if p n = true then 1 else 0) ≤ n + 1
    split <;> omega
theorem zcnt_up {p : Nat → Bool} {n m : Nat} (h : n ≤ m) (h0 : ∀ k, n ≤ k → k < m → p k = false) : zcnt p m = zcnt p n := by
  induction h with
  | refl => rfl
  | step hm ih =>
    rename_i m
    show zcnt p m + (if p m = true then 1 else 0) = zcnt p n
    rw [h0 m hm (by omega), ih (fun k h1 h2 => h0 k h1 (by omega))]
    rfl
set_option maxRecDepth 20000 in
theorem zbc_all : ∀ x, x < 1024 → zbc (nI x) = nI (zcnt x.testBit 10) := by decide +kernel
theorem zbc_N {p : Nat → Bool} {n : Nat} (hn : n ≤ 10) : zbc (nI (zN p n)) = nI (zcnt p n) := by
  rw [zbc_all _ (zN_1024 hn)]
  congr 1
  rw [zcnt_up (n := n) hn (fun k h1 h2 => by rw [zN_bit, decide_eq_false (by omega)]; rfl)]
  exact zcnt_congr (fun k hk => by rw [zN_bit, decide_eq_true hk]; rfl)
theorem zandnot {x y n : Nat} (hx : x < 2 ^ n) (hn : n ≤ 31) : nI x &&& (nI y ^^^ (-1)) = nI (zN (fun k => x.testBit k && !y.testBit k) n) := by
  rw [znot, zand]
  congr 1
  refine zN_ext (Nat.lt_of_le_of_lt Nat.and_le_left hx) (fun k hk => ?_)
  rw [Nat.testBit_and, Nat.testBit_xor, zall1 (by omega)]
  simp
theorem zandN {x y n : Nat} (hx : x < 2 ^ n) : nI x &&& nI y = nI (zN (fun k => x.testBit k && y.testBit k) n) := by
  rw [zand]
  congr 1
  refine zN_ext (Nat.lt_of_le_of_lt Nat.and_le_left hx) (fun k hk => ?_)
  rw [Nat.testBit_and]
theorem zN_all {n : Nat} : 2 ^ n - 1 = zN (fun _ => true) n := zN_ext (Nat.sub_lt (Nat.two_pow_pos n) (by decide)) (fun k hk => by rw [Nat.testBit_two_pow_sub_one]; exact decide_eq_true hk)
theorem zfull {n : Nat} (hn : n < 31) : (1 : Int32) <<< (nI n &&& 31) - 1 = nI (zN (fun _ => true) n) := by
  rw [zone hn, ← zN_all, show (1 : Int32) = nI 1 from rfl, pk_sub (Nat.two_pow_pos n)]
theorem zAtHand_N {V : Nat → Nat → Int32} {ns : Nat} (hn : ns ≤ 10) : zAtHand V ns = nI (zN (fun k => decide (V 8 k = 0)) ns) := by
  unfold zAtHand
  rw [zfull (by omega), zbits_N (by omega), zandnot (zN_lt _ ns) (by omega)]
  congr 1
  exact zN_congr (fun k hk => by rw [zN_bit, zN_bit, decide_eq_true hk]; simp)
theorem zWait_N {V : Nat → Nat → Int32} {ns : Nat} (hn : ns ≤ 10) : zWait V ns = nI (zN (fun k => decide (V 7 k = 0 ∧ V 8 k = 0)) ns) := by
  unfold zWait
  rw [zAtHand_N hn, zbits_N (by omega), zandnot (zN_lt _ ns) (by omega)]
  congr 1
  exact zN_congr (fun k hk => by rw [zN_bit, zN_bit, decide_eq_true hk]; simp [Bool.and_comm])
theorem zUpAf_N {V : Nat → Nat → Int32} {ns : Nat} {m : Int32} (hn : ns ≤ 10) : zUpAf V ns m = nI (zN (fun k => decide (¬ V 7 k = 0 ∧ m < zDrop V k)) ns) := by
  have h : ∀ k, k ≤ ns → zfor (fun k s => if m < zDrop V k then s else s &&& (((1 : Int32) <<< (nI k &&& 31)) ^^^ (-1))) ns k (nI (zN (fun i => decide (¬ V 7 i = 0 ∧ (i < k → m < zDrop V i))) ns)) = nI (zN (fun k => decide (¬ V 7 k = 0 ∧ m < zDrop V k)) ns) := by
    refine zloop ns (fun k hk ih => ?_)
    rcases Nat.eq_or_lt_of_le hk with rfl | hlt
    · rw [zfor_end (Nat.le_refl _)]
      congr 1
      exact zN_congr (fun i hi => by simp [hi])
    · rw [zfor_step hlt, ← ih hlt]
      congr 1
      by_cases q : m < zDrop V k
      · rw [if_pos q]
        congr 1
        refine zN_congr (fun i hi => decide_eq_decide.mpr (and_congr_right fun _ => ⟨fun z hz => ?_, fun z hz => z (by omega)⟩))
        rcases Nat.lt_succ_iff_lt_or_eq.mp hz with z1 | rfl
        · exact z z1
        · exact q
      · rw [if_neg q, zone (by omega), zandnot (zN_lt _ ns) (by omega)]
        congr 1
        refine zN_congr (fun i hi => ?_)
        rw [zN_bit, Nat.testBit_two_pow, decide_eq_true hi, Bool.true_and]
        by_cases e : k = i
        · subst e
          simp [q]
        · have e1 : (i < k + 1 → m < zDrop V i) ↔ (i < k → m < zDrop V i) := ⟨fun z hz => z (by omega), fun z hz => z (by omega)⟩
          simp [e, e1]
  have h0 := h 0 (Nat.zero_le _)
  unfold zUpAf
  rw [zbits_N (by omega), ← h0]
  congr 1
  congr 1
  exact zN_congr (fun i hi => by simp)
theorem zDue_N {V : Nat → Nat → Int32} {ns : Nat} (hn : ns ≤ 10) : zDue V ns = nI (zN (fun k => decide (¬ V 7 k = 0 ∧ ¬ V 12 0 < zDrop V k)) ns) := by
  unfold zDue
  rw [zUpAf_N hn, zbits_N (by omega), zandnot (zN_lt _ ns) (by omega)]
  congr 1
  refine zN_congr (fun k hk => ?_)
  rw [zN_bit, zN_bit, decide_eq_true hk]
  by_cases q : V 7 k = 0 <;> by_cases q2 : V 12 0 < zDrop V k <;> simp only [q, q2, decide_true, decide_false, not_true, not_false_eq_true, Bool.true_and, Bool.false_and, Bool.not_true, Bool.not_false, and_true, and_false, true_and, false_and, Bool.and_true, Bool.and_false]
