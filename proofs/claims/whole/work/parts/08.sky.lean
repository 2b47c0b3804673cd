theorem d_X9_get_0 : decode (zmc m_X9_get) 0 = .ok (.aload_n 0, 1) := by decide +kernel
theorem d_X9_get_1 : decode (zmc m_X9_get) 1 = .ok (.iload_n 1, 1) := by decide +kernel
theorem d_X9_get_2 : decode (zmc m_X9_get) 2 = .ok (.iload_n 2, 1) := by decide +kernel
theorem d_X9_get_3 : decode (zmc m_X9_get) 3 = .ok (.invokevirtual 43, 3) := by decide +kernel
theorem d_X9_get_6 : decode (zmc m_X9_get) 6 = .ok (.ifCond .eq 14, 3) := by decide +kernel
theorem d_X9_get_9 : decode (zmc m_X9_get) 9 = .ok (.aload_n 0, 1) := by decide +kernel
theorem d_X9_get_10 : decode (zmc m_X9_get) 10 = .ok (.getfield 13, 3) := by decide +kernel
theorem d_X9_get_13 : decode (zmc m_X9_get) 13 = .ok (.iload_n 1, 1) := by decide +kernel
theorem d_X9_get_14 : decode (zmc m_X9_get) 14 = .ok (.aaload, 1) := by decide +kernel
theorem d_X9_get_15 : decode (zmc m_X9_get) 15 = .ok (.iload_n 2, 1) := by decide +kernel
theorem d_X9_get_16 : decode (zmc m_X9_get) 16 = .ok (.iaload, 1) := by decide +kernel
theorem d_X9_get_17 : decode (zmc m_X9_get) 17 = .ok (.goto 4, 3) := by decide +kernel
theorem d_X9_get_20 : decode (zmc m_X9_get) 20 = .ok (.iconst 0, 1) := by decide +kernel
theorem d_X9_get_21 : decode (zmc m_X9_get) 21 = .ok (.ireturn, 1) := by decide +kernel
theorem d_X9_has_0 : decode (zmc m_X9_has) 0 = .ok (.iload_n 2, 1) := by decide +kernel
theorem d_X9_has_1 : decode (zmc m_X9_has) 1 = .ok (.ifCond .lt 16, 3) := by decide +kernel
theorem d_X9_has_4 : decode (zmc m_X9_has) 4 = .ok (.iload_n 2, 1) := by decide +kernel
theorem d_X9_has_5 : decode (zmc m_X9_has) 5 = .ok (.aload_n 0, 1) := by decide +kernel
theorem d_X9_has_6 : decode (zmc m_X9_has) 6 = .ok (.iload_n 1, 1) := by decide +kernel
theorem d_X9_has_7 : decode (zmc m_X9_has) 7 = .ok (.invokevirtual 33, 3) := by decide +kernel
theorem d_X9_has_10 : decode (zmc m_X9_has) 10 = .ok (.if_icmp .ge 7, 3) := by decide +kernel
theorem d_X9_has_13 : decode (zmc m_X9_has) 13 = .ok (.iconst 1, 1) := by decide +kernel
theorem d_X9_has_14 : decode (zmc m_X9_has) 14 = .ok (.goto 4, 3) := by decide +kernel
theorem d_X9_has_17 : decode (zmc m_X9_has) 17 = .ok (.iconst 0, 1) := by decide +kernel
theorem d_X9_has_18 : decode (zmc m_X9_has) 18 = .ok (.ireturn, 1) := by decide +kernel
theorem d_X9_holders_0 : decode (zmc m_X9_holders) 0 = .ok (.iload_n 1, 1) := by decide +kernel
theorem d_X9_holders_1 : decode (zmc m_X9_holders) 1 = .ok (.ifCond .lt 9, 3) := by decide +kernel
theorem d_X9_holders_4 : decode (zmc m_X9_holders) 4 = .ok (.iload_n 1, 1) := by decide +kernel
theorem d_X9_holders_5 : decode (zmc m_X9_holders) 5 = .ok (.bipush 12, 2) := by decide +kernel
theorem d_X9_holders_7 : decode (zmc m_X9_holders) 7 = .ok (.if_icmp .lt 5, 3) := by decide +kernel
theorem d_X9_holders_10 : decode (zmc m_X9_holders) 10 = .ok (.iconst 0, 1) := by decide +kernel
theorem d_X9_holders_11 : decode (zmc m_X9_holders) 11 = .ok (.ireturn, 1) := by decide +kernel
theorem d_X9_holders_12 : decode (zmc m_X9_holders) 12 = .ok (.iload_n 1, 1) := by decide +kernel
theorem d_X9_holders_13 : decode (zmc m_X9_holders) 13 = .ok (.iconst 5, 1) := by decide +kernel
theorem d_X9_holders_14 : decode (zmc m_X9_holders) 14 = .ok (.if_icmp .gt 8, 3) := by decide +kernel
theorem d_X9_holders_17 : decode (zmc m_X9_holders) 17 = .ok (.aload_n 0, 1) := by decide +kernel
theorem d_X9_holders_18 : decode (zmc m_X9_holders) 18 = .ok (.getfield 23, 3) := by decide +kernel
theorem d_X9_holders_21 : decode (zmc m_X9_holders) 21 = .ok (.ireturn, 1) := by decide +kernel
theorem d_X9_holders_22 : decode (zmc m_X9_holders) 22 = .ok (.iload_n 1, 1) := by decide +kernel
theorem d_X9_holders_23 : decode (zmc m_X9_holders) 23 = .ok (.bipush 7, 2) := by decide +kernel
theorem d_X9_holders_25 : decode (zmc m_X9_holders) 25 = .ok (.if_icmp .gt 8, 3) := by decide +kernel
theorem d_X9_holders_28 : decode (zmc m_X9_holders) 28 = .ok (.aload_n 0, 1) := by decide +kernel
theorem d_X9_holders_29 : decode (zmc m_X9_holders) 29 = .ok (.getfield 27, 3) := by decide +kernel
theorem d_X9_holders_32 : decode (zmc m_X9_holders) 32 = .ok (.ireturn, 1) := by decide +kernel
theorem d_X9_holders_33 : decode (zmc m_X9_holders) 33 = .ok (.iload_n 1, 1) := by decide +kernel
theorem d_X9_holders_34 : decode (zmc m_X9_holders) 34 = .ok (.bipush 8, 2) := by decide +kernel
theorem d_X9_holders_36 : decode (zmc m_X9_holders) 36 = .ok (.if_icmp .ne 10, 3) := by decide +kernel
theorem d_X9_holders_39 : decode (zmc m_X9_holders) 39 = .ok (.aload_n 0, 1) := by decide +kernel
theorem d_X9_holders_40 : decode (zmc m_X9_holders) 40 = .ok (.getfield 30, 3) := by decide +kernel
theorem d_X9_holders_43 : decode (zmc m_X9_holders) 43 = .ok (.goto 4, 3) := by decide +kernel
theorem d_X9_holders_46 : decode (zmc m_X9_holders) 46 = .ok (.iconst 1, 1) := by decide +kernel
theorem d_X9_holders_47 : decode (zmc m_X9_holders) 47 = .ok (.ireturn, 1) := by decide +kernel
theorem d_X9_mayBe_0 : decode (zmc m_X9_mayBe) 0 = .ok (.iload_n 1, 1) := by decide +kernel
theorem d_X9_mayBe_1 : decode (zmc m_X9_mayBe) 1 = .ok (.ifCond .lt 31, 3) := by decide +kernel
theorem d_X9_mayBe_4 : decode (zmc m_X9_mayBe) 4 = .ok (.iload_n 1, 1) := by decide +kernel
theorem d_X9_mayBe_5 : decode (zmc m_X9_mayBe) 5 = .ok (.bipush 12, 2) := by decide +kernel
theorem d_X9_mayBe_7 : decode (zmc m_X9_mayBe) 7 = .ok (.if_icmp .ge 25, 3) := by decide +kernel
theorem d_X9_mayBe_10 : decode (zmc m_X9_mayBe) 10 = .ok (.iload_n 2, 1) := by decide +kernel
theorem d_X9_mayBe_11 : decode (zmc m_X9_mayBe) 11 = .ok (.getstatic 37, 3) := by decide +kernel
theorem d_X9_mayBe_14 : decode (zmc m_X9_mayBe) 14 = .ok (.iload_n 1, 1) := by decide +kernel
theorem d_X9_mayBe_15 : decode (zmc m_X9_mayBe) 15 = .ok (.iaload, 1) := by decide +kernel
theorem d_X9_mayBe_16 : decode (zmc m_X9_mayBe) 16 = .ok (.if_icmp .lt 16, 3) := by decide +kernel
theorem d_X9_mayBe_19 : decode (zmc m_X9_mayBe) 19 = .ok (.iload_n 2, 1) := by decide +kernel
theorem d_X9_mayBe_20 : decode (zmc m_X9_mayBe) 20 = .ok (.getstatic 40, 3) := by decide +kernel
theorem d_X9_mayBe_23 : decode (zmc m_X9_mayBe) 23 = .ok (.iload_n 1, 1) := by decide +kernel
theorem d_X9_mayBe_24 : decode (zmc m_X9_mayBe) 24 = .ok (.iaload, 1) := by decide +kernel
theorem d_X9_mayBe_25 : decode (zmc m_X9_mayBe) 25 = .ok (.if_icmp .gt 7, 3) := by decide +kernel
theorem d_X9_mayBe_28 : decode (zmc m_X9_mayBe) 28 = .ok (.iconst 1, 1) := by decide +kernel
theorem d_X9_mayBe_29 : decode (zmc m_X9_mayBe) 29 = .ok (.goto 4, 3) := by decide +kernel
theorem d_X9_mayBe_32 : decode (zmc m_X9_mayBe) 32 = .ok (.iconst 0, 1) := by decide +kernel
theorem d_X9_mayBe_33 : decode (zmc m_X9_mayBe) 33 = .ok (.ireturn, 1) := by decide +kernel
theorem d_X9_set_0 : decode (zmc m_X9_set) 0 = .ok (.aload_n 0, 1) := by decide +kernel
theorem d_X9_set_1 : decode (zmc m_X9_set) 1 = .ok (.iload_n 1, 1) := by decide +kernel
theorem d_X9_set_2 : decode (zmc m_X9_set) 2 = .ok (.iload_n 2, 1) := by decide +kernel
theorem d_X9_set_3 : decode (zmc m_X9_set) 3 = .ok (.invokevirtual 43, 3) := by decide +kernel
theorem d_X9_set_6 : decode (zmc m_X9_set) 6 = .ok (.ifCond .eq 12, 3) := by decide +kernel
theorem d_X9_set_9 : decode (zmc m_X9_set) 9 = .ok (.aload_n 0, 1) := by decide +kernel
theorem d_X9_set_10 : decode (zmc m_X9_set) 10 = .ok (.getfield 13, 3) := by decide +kernel
theorem d_X9_set_13 : decode (zmc m_X9_set) 13 = .ok (.iload_n 1, 1) := by decide +kernel
theorem d_X9_set_14 : decode (zmc m_X9_set) 14 = .ok (.aaload, 1) := by decide +kernel
theorem d_X9_set_15 : decode (zmc m_X9_set) 15 = .ok (.iload_n 2, 1) := by decide +kernel
theorem d_X9_set_16 : decode (zmc m_X9_set) 16 = .ok (.iload_n 3, 1) := by decide +kernel
theorem d_X9_set_17 : decode (zmc m_X9_set) 17 = .ok (.iastore, 1) := by decide +kernel
theorem d_X9_set_18 : decode (zmc m_X9_set) 18 = .ok (.return_, 1) := by decide +kernel
theorem d_X9_starIn_0 : decode (zmc m_X9_starIn) 0 = .ok (.iconst 0, 1) := by decide +kernel
theorem d_X9_starIn_1 : decode (zmc m_X9_starIn) 1 = .ok (.istore_n 2, 1) := by decide +kernel
theorem d_X9_starIn_2 : decode (zmc m_X9_starIn) 2 = .ok (.iload_n 2, 1) := by decide +kernel
theorem d_X9_starIn_3 : decode (zmc m_X9_starIn) 3 = .ok (.aload_n 0, 1) := by decide +kernel
theorem d_X9_starIn_4 : decode (zmc m_X9_starIn) 4 = .ok (.getfield 23, 3) := by decide +kernel
theorem d_X9_starIn_7 : decode (zmc m_X9_starIn) 7 = .ok (.if_icmp .ge 23, 3) := by decide +kernel
theorem d_X9_starIn_10 : decode (zmc m_X9_starIn) 10 = .ok (.aload_n 0, 1) := by decide +kernel
theorem d_X9_starIn_11 : decode (zmc m_X9_starIn) 11 = .ok (.getfield 13, 3) := by decide +kernel
theorem d_X9_starIn_14 : decode (zmc m_X9_starIn) 14 = .ok (.iconst 0, 1) := by decide +kernel
theorem d_X9_starIn_15 : decode (zmc m_X9_starIn) 15 = .ok (.aaload, 1) := by decide +kernel
theorem d_X9_starIn_16 : decode (zmc m_X9_starIn) 16 = .ok (.iload_n 2, 1) := by decide +kernel
theorem d_X9_starIn_17 : decode (zmc m_X9_starIn) 17 = .ok (.iaload, 1) := by decide +kernel
theorem d_X9_starIn_18 : decode (zmc m_X9_starIn) 18 = .ok (.iload_n 1, 1) := by decide +kernel
theorem d_X9_starIn_19 : decode (zmc m_X9_starIn) 19 = .ok (.if_icmp .ne 5, 3) := by decide +kernel
theorem d_X9_starIn_22 : decode (zmc m_X9_starIn) 22 = .ok (.iload_n 2, 1) := by decide +kernel
theorem d_X9_starIn_23 : decode (zmc m_X9_starIn) 23 = .ok (.ireturn, 1) := by decide +kernel
theorem d_X9_starIn_24 : decode (zmc m_X9_starIn) 24 = .ok (.iinc 2 1, 3) := by decide +kernel
theorem d_X9_starIn_27 : decode (zmc m_X9_starIn) 27 = .ok (.goto (-25), 3) := by decide +kernel
theorem d_X9_starIn_30 : decode (zmc m_X9_starIn) 30 = .ok (.bipush (-2), 2) := by decide +kernel
theorem d_X9_starIn_32 : decode (zmc m_X9_starIn) 32 = .ok (.ireturn, 1) := by decide +kernel
/-! THE SKY -/
theorem nI1 : nI 1 = 1 := rfl
theorem nle {a b : Nat} (h : nI b ≤ nI a) (ha : a < 2 ^ 31 := by omega) (hb : b < 2 ^ 31 := by omega) : b ≤ a := (nI_leI hb ha).mp h
theorem nnle {a b : Nat} (h : ¬ nI b ≤ nI a) (ha : a < 2 ^ 31 := by omega) (hb : b < 2 ^ 31 := by omega) : a < b := Nat.not_le.mp (fun q => h ((nI_leI hb ha).mpr q))
theorem nlt {a b : Nat} (h : nI a < nI b) (ha : a < 2 ^ 31 := by omega) (hb : b < 2 ^ 31 := by omega) : a < b := (nI_ltI ha hb).mp h
theorem nnlt {a b : Nat} (h : ¬ nI a < nI b) (ha : a < 2 ^ 31 := by omega) (hb : b < 2 ^ 31 := by omega) : b ≤ a := Nat.not_lt.mp (fun q => h ((nI_ltI ha hb).mpr q))
theorem zinc (k : Nat) : nI k + Int32.ofInt 1 = nI (k + 1) := nI_1 k
theorem zn0 {x : Int32} (h : ¬ x < 0) : ∃ j : Nat, j < 2 ^ 31 ∧ x = nI j := nI_of h
/-- an int between 0 and a number -/
theorem zn1 {x : Int32} {n : Nat} (hn : n < 2 ^ 31) (h : 0 ≤ x) (h2 : x < nI n) : ∃ j : Nat, j < n ∧ x = nI j := by
  obtain ⟨j, hj, rfl⟩ := nI_of (x := x) (by intro q; exact absurd h (by simpa using q))
  exact ⟨j, (nI_ltI hj hn).mp h2, rfl⟩
theorem zcl_n {k : Nat} (h : k < 2 ^ 31) : (nI k).toNatClampNeg = k := nI_clamp h
/-- n rounds: f k, from k on -/
def zit {σ : Type} (f : Nat → σ → σ) : Nat → Nat → σ → σ
  | 0, _, s => s
  | m + 1, k, s => zit f m (k + 1) (f k s)
def zfor {σ : Type} (f : Nat → σ → σ) (n k : Nat) (s : σ) : σ := zit f (n - k) k s
theorem zfor_end {σ : Type} {f : Nat → σ → σ} {n k : Nat} {s : σ} (h : n ≤ k) : zfor f n k s = s := by
  unfold zfor; rw [Nat.sub_eq_zero_of_le h]; rfl
theorem zfor_step {σ : Type} {f : Nat → σ → σ} {n k : Nat} {s : σ} (h : k < n) : zfor f n k s = zfor f n (k + 1) (f k s) := by
  unfold zfor
  rw [show n - k = (n - (k + 1)) + 1 by omega]; rfl
theorem zit_congr {σ : Type} {f f' : Nat → σ → σ} : ∀ (m k : Nat) (s : σ), (∀ j t, k ≤ j → j < k + m → f j t = f' j t) → zit f m k s = zit f' m k s
  | 0, _, _, _ => rfl
  | m + 1, k, s, h => by
    show zit f m (k + 1) (f k s) = zit f' m (k + 1) (f' k s)
    rw [h k s (Nat.le_refl _) (by omega)]
    exact zit_congr m (k + 1) _ (fun j t h1 h2 => h j t (by omega) (by omega))
theorem zfor_congr {σ : Type} {f f' : Nat → σ → σ} {n k : Nat} {s : σ} (h : ∀ j t, k ≤ j → j < n → f j t = f' j t) : zfor f n k s = zfor f' n k s :=
  zit_congr _ _ _ (fun j t h1 h2 => h j t h1 (by omega))
/-- the least place from k on, of m, where f is c; -2 -/
def zfd (f : Nat → Int32) (c : Int32) : Nat → Nat → Int32
  | 0, _ => -2
  | m + 1, k => if f k = c then nI k else zfd f c m (k + 1)
def zfind (f : Nat → Int32) (c : Int32) (n k : Nat) : Int32 := zfd f c (n - k) k
theorem zfind_end {f : Nat → Int32} {c : Int32} {n k : Nat} (h : n ≤ k) : zfind f c n k = -2 := by
  unfold zfind; rw [Nat.sub_eq_zero_of_le h]; rfl
theorem zfind_step {f : Nat → Int32} {c : Int32} {n k : Nat} (h : k < n) : zfind f c n k = if f k = c then nI k else zfind f c n (k + 1) := by
  unfold zfind
  rw [show n - k = (n - (k + 1)) + 1 by omega]; rfl
theorem zfind_cases (f : Nat → Int32) (c : Int32) (n : Nat) : ∀ k, k ≤ n → (zfind f c n k = -2 ∧ ∀ j, k ≤ j → j < n → f j ≠ c) ∨ ∃ j, k ≤ j ∧ j < n ∧ f j = c ∧ zfind f c n k = nI j ∧ ∀ i, k ≤ i → i < j → f i ≠ c := by
  intro k hk
  induction h : n - k generalizing k with
  | zero =>
    refine Or.inl ⟨zfind_end (by omega), fun j h1 h2 => by omega⟩
  | succ m ih =>
    rw [zfind_step (by omega)]
    by_cases e : f k = c
    · rw [if_pos e]
      exact Or.inr ⟨k, Nat.le_refl _, by omega, e, rfl, fun i h1 h2 => by omega⟩
    · rw [if_neg e]
      rcases ih (k + 1) (by omega) (by omega) with ⟨h1, h2⟩ | ⟨j, h1, h2, h3, h4, h5⟩
      · refine Or.inl ⟨h1, fun j h3 h4 => ?_⟩
        rcases Nat.eq_or_lt_of_le h3 with rfl | h3
        · exact e
        · exact h2 j h3 h4
      · refine Or.inr ⟨j, by omega, h2, h3, h4, fun i h6 h7 => ?_⟩
        rcases Nat.eq_or_lt_of_le h6 with rfl | h6
        · exact e
        · exact h5 i h6 h7
/-- rounds k .. n, each from the next: to begin with the last -/
theorem zloop {P : Nat → Prop} (n : Nat) (h : ∀ k, k ≤ n → (k < n → P (k + 1)) → P k) : ∀ k, k ≤ n → P k := by
  intro k hk
  induction e : n - k generalizing k with
  | zero => exact h k hk (fun q => by omega)
  | succ m ih => exact h k hk (fun q => ih (k + 1) q (by omega))
def zSky (I : Nat → Nat → Int32) (ns nt nh : Nat) : Prop := (I 1 3 = nI ns ∧ I 1 4 = nI nt ∧ I 1 5 = nI nh) ∧ ns ≤ 10 ∧ nt ≤ 4 ∧ nh ≤ 6
def zHold (ns nt nh : Nat) (w : Int32) : Nat := if w < 0 ∨ 12 ≤ w then 0 else if w ≤ 5 then ns else if w ≤ 7 then nt else if w = 8 then nh else 1
abbrev zMay (what v : Int32) : Prop := (0 ≤ what ∧ what < 12) ∧ zstv 0 what.toNatClampNeg ≤ v ∧ v ≤ zstv 1 what.toNatClampNeg
def zGet (I : Nat → Nat → Int32) (ns nt nh : Nat) (what number : Int32) : Int32 := if 0 ≤ number ∧ number < nI (zHold ns nt nh what) then I (3 + what.toNatClampNeg) number.toNatClampNeg else 0
def zSetI (I : Nat → Nat → Int32) (ns nt nh : Nat) (what number v : Int32) : Nat → Nat → Int32 := if 0 ≤ number ∧ number < nI (zHold ns nt nh what) then zup I (3 + what.toNatClampNeg) (zup (I (3 + what.toNatClampNeg)) number.toNatClampNeg v) else I
theorem zHold_le {ns nt nh : Nat} {w : Int32} (hns : ns ≤ 10) (hnt : nt ≤ 4) (hnh : nh ≤ 6) : zHold ns nt nh w ≤ 10 := by
  unfold zHold; grind
theorem zHold_in {ns nt nh : Nat} {what number : Int32} (hns : ns ≤ 10) (hnt : nt ≤ 4) (hnh : nh ≤ 6) (h : 0 ≤ number ∧ number < nI (zHold ns nt nh what)) : ∃ j k : Nat, j < 12 ∧ k < 10 ∧ k < zHold ns nt nh what ∧ what = nI j ∧ number = nI k := by
  have h10 := zHold_le (w := what) hns hnt hnh
  obtain ⟨k, hk, rfl⟩ := zn1 (by omega) h.1 h.2
  have hw : ¬ (what < 0 ∨ 12 ≤ what) := by
    intro q
    unfold zHold at hk
    rw [if_pos q] at hk
    omega
  obtain ⟨j, hj, rfl⟩ := zn1 (x := what) (n := 12) (by omega) (by grind) (by have : nI 12 = 12 := rfl; grind)
  exact ⟨j, k, hj, by omega, hk, rfl, rfl⟩
theorem sh_num {j : Nat} (h : j < 12) : zsh (3 + j) = (20, 10) := by
  match j, h with
  | 0, _ => rfl
  | 1, _ => rfl
  | 2, _ => rfl
  | 3, _ => rfl
  | 4, _ => rfl
  | 5, _ => rfl
  | 6, _ => rfl
  | 7, _ => rfl
  | 8, _ => rfl
  | 9, _ => rfl
  | 10, _ => rfl
  | 11, _ => rfl
theorem r_num {fs : Nat × Nat × Option Nat} {j : Nat} (h : j < 12) : zR fs 2 j = some (3 + j) := by
  match j, h with
  | 0, _ => rfl
  | 1, _ => rfl
  | 2, _ => rfl
  | 3, _ => rfl
  | 4, _ => rfl
  | 5, _ => rfl
  | 6, _ => rfl
  | 7, _ => rfl
  | 8, _ => rfl
  | 9, _ => rfl
  | 10, _ => rfl
  | 11, _ => rfl
section S8
variable {g : zG} {l : Launch} {d : Nat} {I : Nat → Nat → Int32} {L : Nat → Nat → Int64} {fs : Nat × Nat × Option Nat} {ns nt nh : Nat}
theorem sp_X9_holders (hd : 1 ≤ d) (hK : zSky I ns nt nh) {what : Int32} : zPure g l d m_X9_holders [.ref 1, .int what] I L fs (.int (nI (zHold ns nt nh what))) := by
  obtain ⟨⟨k1, k2, k3⟩, hns, hnt, hnh⟩ := hK
  refine zSp_of (lv := [(0, .ref 1), (1, .int what)]) k_X9_holders rfl (Nat.le_of_ble_eq_true rfl) ?_
  refine zIloadN d_X9_holders_0 rfl rfl (q := 1) rfl ?_
  refine zIf_lt d_X9_holders_1 (tgt := 10) (q := 4) (by decide) rfl (fun h1 => ?_) (fun h1 => ?_)
  · refine zIconst d_X9_holders_10 (v := 0) ic_0 (q := 11) rfl ?_
    refine zIret d_X9_holders_11 rfl rfl rfl ?_
    exact zPi (by grind [zHold, nI_0, nI1])
  · refine zIloadN d_X9_holders_4 rfl rfl (q := 5) rfl ?_
    refine zBipush d_X9_holders_5 (v := 12) bc_12 (q := 7) rfl ?_
    refine zIcmp_lt d_X9_holders_7 (tgt := 12) (q := 10) (by decide) rfl (fun h7 => ?_) (fun h7 => ?_)
    · refine zIloadN d_X9_holders_12 rfl rfl (q := 13) rfl ?_
      refine zIconst d_X9_holders_13 (v := 5) ic_5 (q := 14) rfl ?_
      refine zIcmp_gt d_X9_holders_14 (tgt := 22) (q := 17) (by decide) rfl (fun h14 => ?_) (fun h14 => ?_)
      · refine zIloadN d_X9_holders_22 rfl rfl (q := 23) rfl ?_
        refine zBipush d_X9_holders_23 (v := 7) bc_7 (q := 25) rfl ?_
        refine zIcmp_gt d_X9_holders_25 (tgt := 33) (q := 28) (by decide) rfl (fun h25 => ?_) (fun h25 => ?_)
        · refine zIloadN d_X9_holders_33 rfl rfl (q := 34) rfl ?_
          refine zBipush d_X9_holders_34 (v := 8) bc_8 (q := 36) rfl ?_
          refine zIcmp_ne d_X9_holders_36 (tgt := 46) (q := 39) (by decide) rfl (fun h36 => ?_) (fun h36 => ?_)
          · refine zIconst d_X9_holders_46 (v := 1) ic_1 (q := 47) rfl ?_
            refine zIret d_X9_holders_47 rfl rfl rfl ?_
            exact zPi (by grind [zHold, nI_0, nI1])
          · refine zAloadN d_X9_holders_39 rfl rfl (q := 40) rfl ?_
            refine zGetI d_X9_holders_40 ff_X9_30 sh_1 (by decide) (q := 43) rfl ?_
            refine zGoto d_X9_holders_43 (q := 47) (by decide) ?_
            refine zIret d_X9_holders_47 rfl rfl rfl ?_
            exact zPi (by grind [zHold, nI_0, nI1])
        · refine zAloadN d_X9_holders_28 rfl rfl (q := 29) rfl ?_
          refine zGetI d_X9_holders_29 ff_X9_27 sh_1 (by decide) (q := 32) rfl ?_
          refine zIret d_X9_holders_32 rfl rfl rfl ?_
          exact zPi (by grind [zHold, nI_0, nI1])
      · refine zAloadN d_X9_holders_17 rfl rfl (q := 18) rfl ?_
        refine zGetI d_X9_holders_18 ff_X9_23 sh_1 (by decide) (q := 21) rfl ?_
        refine zIret d_X9_holders_21 rfl rfl rfl ?_
        exact zPi (by grind [zHold, nI_0, nI1])
    · refine zIconst d_X9_holders_10 (v := 0) ic_0 (q := 11) rfl ?_
      refine zIret d_X9_holders_11 rfl rfl rfl ?_
      exact zPi (by grind [zHold, nI_0, nI1])
theorem sp_X9_has (hd : 2 ≤ d) (hK : zSky I ns nt nh) {what number : Int32} : zPure g l d m_X9_has [.ref 1, .int what, .int number] I L fs (.int (bi (0 ≤ number ∧ number < nI (zHold ns nt nh what)))) := by
  refine zSp_of (lv := [(0, .ref 1), (1, .int what), (2, .int number)]) k_X9_has rfl (Nat.le_of_ble_eq_true rfl) ?_
  refine zIloadN d_X9_has_0 rfl rfl (q := 1) rfl ?_
  refine zIf_lt d_X9_has_1 (tgt := 17) (q := 4) (by decide) rfl (fun h1 => ?_) (fun h1 => ?_)
  · refine zIconst d_X9_has_17 (v := 0) ic_0 (q := 18) rfl ?_
    refine zIret d_X9_has_18 rfl rfl rfl ?_
    exact zPi (by unfold bi; grind)
  · refine zIloadN d_X9_has_4 rfl rfl (q := 5) rfl ?_
    refine zAloadN d_X9_has_5 rfl rfl (q := 6) rfl ?_
    refine zIloadN d_X9_has_6 rfl rfl (q := 7) rfl ?_
    refine zCallVP d_X9_has_7 ml_X9_33 k_X9_holders ki_X9_holders ks_X9_holders (sp_X9_holders (d := d - 1) (by omega) hK) rfl rfl sh_1 (by decide) rfl (by decide) (Nat.le_of_ble_eq_true rfl) (by decide) (by omega) zns100 (q := 10) rfl ?_
    refine zIcmp_ge d_X9_has_10 (tgt := 17) (q := 13) (by decide) rfl (fun h10 => ?_) (fun h10 => ?_)
    · refine zIconst d_X9_has_17 (v := 0) ic_0 (q := 18) rfl ?_
      refine zIret d_X9_has_18 rfl rfl rfl ?_
      exact zPi (by unfold bi; grind)
    · refine zIconst d_X9_has_13 (v := 1) ic_1 (q := 14) rfl ?_
      refine zGoto d_X9_has_14 (q := 18) (by decide) ?_
      refine zIret d_X9_has_18 rfl rfl rfl ?_
      exact zPi (by unfold bi; grind)
theorem sp_X9_mayBe (hd : 1 ≤ d) {what v : Int32} : zPure g l d m_X9_mayBe [.ref 1, .int what, .int v] I L fs (.int (bi (zMay what v))) := by
  refine zSp_of (lv := [(0, .ref 1), (1, .int what), (2, .int v)]) k_X9_mayBe rfl (Nat.le_of_ble_eq_true rfl) ?_
  refine zIloadN d_X9_mayBe_0 rfl rfl (q := 1) rfl ?_
  refine zIf_lt d_X9_mayBe_1 (tgt := 32) (q := 4) (by decide) rfl (fun h1 => ?_) (fun h1 => ?_)
  · refine zIconst d_X9_mayBe_32 (v := 0) ic_0 (q := 33) rfl ?_
    refine zIret d_X9_mayBe_33 rfl rfl rfl ?_
    exact zPi (by unfold bi zMay; grind)
  · refine zIloadN d_X9_mayBe_4 rfl rfl (q := 5) rfl ?_
    refine zBipush d_X9_mayBe_5 (v := 12) bc_12 (q := 7) rfl ?_
    refine zIcmp_ge d_X9_mayBe_7 (tgt := 32) (q := 10) (by decide) rfl (fun h7 => ?_) (fun h7 => ?_)
    · refine zIconst d_X9_mayBe_32 (v := 0) ic_0 (q := 33) rfl ?_
      refine zIret d_X9_mayBe_33 rfl rfl rfl ?_
      exact zPi (by unfold bi zMay; grind)
    · obtain ⟨j, hj, hw⟩ := zn1 (x := what) (n := 12) (by omega) (by grind) (by have : nI 12 = 12 := rfl; grind)
      have hc : what.toNatClampNeg = j := by rw [hw]; exact zcl_n (by omega)
      refine zIloadN d_X9_mayBe_10 rfl rfl (q := 11) rfl ?_
      refine zGetS0 d_X9_mayBe_11 fl_X9_37 (q := 14) rfl ?_
      refine zIloadN d_X9_mayBe_14 rfl rfl (q := 15) rfl ?_
      refine zSi0 d_X9_mayBe_15 (k := j) hw hj (q := 16) rfl ?_
      refine zIcmp_lt d_X9_mayBe_16 (tgt := 32) (q := 19) (by decide) rfl (fun h16 => ?_) (fun h16 => ?_)
      · refine zIconst d_X9_mayBe_32 (v := 0) ic_0 (q := 33) rfl ?_
        refine zIret d_X9_mayBe_33 rfl rfl rfl ?_
        exact zPi (by unfold bi zMay; grind)
      · refine zIloadN d_X9_mayBe_19 rfl rfl (q := 20) rfl ?_
        refine zGetS1 d_X9_mayBe_20 fl_X9_40 (q := 23) rfl ?_
        refine zIloadN d_X9_mayBe_23 rfl rfl (q := 24) rfl ?_
        refine zSi1 d_X9_mayBe_24 (k := j) hw hj (q := 25) rfl ?_
        refine zIcmp_gt d_X9_mayBe_25 (tgt := 32) (q := 28) (by decide) rfl (fun h25 => ?_) (fun h25 => ?_)
        · refine zIconst d_X9_mayBe_32 (v := 0) ic_0 (q := 33) rfl ?_
          refine zIret d_X9_mayBe_33 rfl rfl rfl ?_
          exact zPi (by unfold bi zMay; grind)
        · refine zIconst d_X9_mayBe_28 (v := 1) ic_1 (q := 29) rfl ?_
          refine zGoto d_X9_mayBe_29 (q := 33) (by decide) ?_
          refine zIret d_X9_mayBe_33 rfl rfl rfl ?_
          exact zPi (by unfold bi zMay; grind)
theorem sp_X9_get (hd : 3 ≤ d) (hK : zSky I ns nt nh) {what number : Int32} : zPure g l d m_X9_get [.ref 1, .int what, .int number] I L fs (.int (zGet I ns nt nh what number)) := by
  refine zSp_of (lv := [(0, .ref 1), (1, .int what), (2, .int number)]) k_X9_get rfl (Nat.le_of_ble_eq_true rfl) ?_
  refine zAloadN d_X9_get_0 rfl rfl (q := 1) rfl ?_
  refine zIloadN d_X9_get_1 rfl rfl (q := 2) rfl ?_
  refine zIloadN d_X9_get_2 rfl rfl (q := 3) rfl ?_
  refine zCallVP d_X9_get_3 ml_X9_43 k_X9_has ki_X9_has ks_X9_has (sp_X9_has (d := d - 1) (by omega) hK) rfl rfl sh_1 (by decide) rfl (by decide) (Nat.le_of_ble_eq_true rfl) (by decide) (by omega) zns100 (q := 6) rfl ?_
  refine zIf_eq d_X9_get_6 (tgt := 20) (q := 9) (by decide) rfl (fun h6 => ?_) (fun h6 => ?_)
  · refine zIconst d_X9_get_20 (v := 0) ic_0 (q := 21) rfl ?_
    refine zIret d_X9_get_21 rfl rfl rfl ?_
    exact zPi (by unfold zGet; first | (rw [if_pos hh, zcl_n (by omega), zcl_n (by omega)]) | (rw [if_neg (bi_0.mp h6)]))
  · have hh := bi_n0.mp h6
    obtain ⟨j, k, hj, hk, -, rfl, rfl⟩ := zHold_in hK.2.1 hK.2.2.1 hK.2.2.2 hh
    refine zAloadN d_X9_get_9 rfl rfl (q := 10) rfl ?_
    refine zGetR d_X9_get_10 ff_X9_13 sh_1 (by decide) r_1_0 (q := 13) rfl ?_
    refine zIloadN d_X9_get_13 rfl rfl (q := 14) rfl ?_
    refine zAaldII d_X9_get_14 sh_2 (by decide) (j := j) rfl hj (r_num hj) (q := 15) rfl ?_
    refine zIloadN d_X9_get_15 rfl rfl (q := 16) rfl ?_
    refine zIald d_X9_get_16 (sh_num hj) (by omega) (j := k) rfl hk (q := 17) rfl ?_
    refine zGoto d_X9_get_17 (q := 21) (by decide) ?_
    refine zIret d_X9_get_21 rfl rfl rfl ?_
    exact zPi (by unfold zGet; first | (rw [if_pos hh, zcl_n (by omega), zcl_n (by omega)]) | (rw [if_neg (bi_0.mp h6)]))
theorem sp_X9_set (hd : 3 ≤ d) (hK : zSky I ns nt nh) {what number v : Int32} : zSp g l d 100 m_X9_set [.ref 1, .int what, .int number, .int v] (zU I L fs) (zV (fun w => w = zU (zSetI I ns nt nh what number v) L fs)) := by
  refine zSp_of (lv := [(0, .ref 1), (1, .int what), (2, .int number), (3, .int v)]) k_X9_set rfl (Nat.le_of_ble_eq_true rfl) ?_
  refine zAloadN d_X9_set_0 rfl rfl (q := 1) rfl ?_
  refine zIloadN d_X9_set_1 rfl rfl (q := 2) rfl ?_
  refine zIloadN d_X9_set_2 rfl rfl (q := 3) rfl ?_
  refine zCallVP d_X9_set_3 ml_X9_43 k_X9_has ki_X9_has ks_X9_has (sp_X9_has (d := d - 1) (by omega) hK) rfl rfl sh_1 (by decide) rfl (by decide) (Nat.le_of_ble_eq_true rfl) (by decide) (by omega) zns100 (q := 6) rfl ?_
  refine zIf_eq d_X9_set_6 (tgt := 18) (q := 9) (by decide) rfl (fun h6 => ?_) (fun h6 => ?_)
  · refine zVret d_X9_set_18 rfl rfl ?_
    exact ⟨rfl, by unfold zSetI; first | (rw [if_pos hh, zcl_n (by omega), zcl_n (by omega)]) | (rw [if_neg (bi_0.mp h6)])⟩
  · have hh := bi_n0.mp h6
    obtain ⟨j, k, hj, hk, -, rfl, rfl⟩ := zHold_in hK.2.1 hK.2.2.1 hK.2.2.2 hh
    refine zAloadN d_X9_set_9 rfl rfl (q := 10) rfl ?_
    refine zGetR d_X9_set_10 ff_X9_13 sh_1 (by decide) r_1_0 (q := 13) rfl ?_
    refine zIloadN d_X9_set_13 rfl rfl (q := 14) rfl ?_
    refine zAaldII d_X9_set_14 sh_2 (by decide) (j := j) rfl hj (r_num hj) (q := 15) rfl ?_
    refine zIloadN d_X9_set_15 rfl rfl (q := 16) rfl ?_
    refine zIloadN d_X9_set_16 rfl rfl (q := 17) rfl ?_
    refine zIast d_X9_set_17 (sh_num hj) (by omega) (j := k) rfl hk (q := 18) rfl ?_
    refine zVret d_X9_set_18 rfl rfl ?_
    exact ⟨rfl, by unfold zSetI; first | (rw [if_pos hh, zcl_n (by omega), zcl_n (by omega)]) | (rw [if_neg (bi_0.mp h6)])⟩
theorem sp_X9_starIn (hd : 1 ≤ d) (hK : zSky I ns nt nh) {cell : Int32} : zPure g l d m_X9_starIn [.ref 1, .int cell] I L fs (.int (zfind (I 3) cell ns 0)) := by
  obtain ⟨⟨k1, k2, k3⟩, hns, hnt, hnh⟩ := hK
  have loop : ∀ k, k ≤ ns → zfind (I 3) cell ns k = zfind (I 3) cell ns 0 → zA g l d m_X9_starIn I L fs 2 [(2, .int (nI k)), (0, .ref 1), (1, .int cell)] (zP (.int (zfind (I 3) cell ns 0)) (zU I L fs)) := by
    refine zloop ns (fun k hk ih hx => ?_)
    refine zIloadN d_X9_starIn_2 rfl rfl (q := 3) rfl ?_
    refine zAloadN d_X9_starIn_3 rfl rfl (q := 4) rfl ?_
    refine zGetI d_X9_starIn_4 ff_X9_23 sh_1 (by decide) (q := 7) rfl ?_
    refine zIcmp_ge d_X9_starIn_7 (tgt := 30) (q := 10) (by decide) rfl (fun h7 => ?_) (fun h7 => ?_)
    · have e := nle (k1 ▸ h7)
      refine zBipush d_X9_starIn_30 (v := -2) bc_m2 (q := 32) rfl ?_
      refine zIret d_X9_starIn_32 rfl rfl rfl ?_
      exact zPi (by rw [← hx, zfind_end e])
    · have hlt := nnle (k1 ▸ h7)
      rw [zfind_step hlt] at hx
      refine zAloadN d_X9_starIn_10 rfl rfl (q := 11) rfl ?_
      refine zGetR d_X9_starIn_11 ff_X9_13 sh_1 (by decide) r_1_0 (q := 14) rfl ?_
      refine zIconst d_X9_starIn_14 (v := 0) ic_0 (q := 15) rfl ?_
      refine zAaldII d_X9_starIn_15 sh_2 (by decide) (j := 0) rfl (by decide) r_2_0 (q := 16) rfl ?_
      refine zIloadN d_X9_starIn_16 rfl rfl (q := 17) rfl ?_
      refine zIald d_X9_starIn_17 sh_3 (by decide) rfl (by omega) (q := 18) rfl ?_
      refine zIloadN d_X9_starIn_18 rfl rfl (q := 19) rfl ?_
      refine zIcmp_ne d_X9_starIn_19 (tgt := 24) (q := 22) (by decide) rfl (fun h19 => ?_) (fun h19 => ?_)
      · refine zIinc d_X9_starIn_24 rfl (zinc _) (by decide) rfl (q := 27) rfl ?_
        refine zGoto d_X9_starIn_27 (q := 2) (by decide) ?_
        refine zSub [0, 1, 2] rfl ?_
        exact ih hlt (by rw [if_neg h19] at hx; exact hx)
      · refine zIloadN d_X9_starIn_22 rfl rfl (q := 23) rfl ?_
        refine zIret d_X9_starIn_23 rfl rfl rfl ?_
        exact zPi (by rw [← hx, if_pos (by simpa using h19)])
  refine zSp_of (lv := [(0, .ref 1), (1, .int cell)]) k_X9_starIn rfl (Nat.le_of_ble_eq_true rfl) ?_
  refine zIconst d_X9_starIn_0 (v := 0) ic_0 (q := 1) rfl ?_
  refine zIstoreN d_X9_starIn_1 rfl (by decide) rfl (q := 2) rfl ?_
  refine zSub [0, 1, 2] rfl ?_
  exact loop 0 (Nat.zero_le _) rfl
end S8

