theorem d_X2_findMoves_0 : decode (zmc m_X2_findMoves) 0 = .ok (.aload_n 0, 1) := by decide +kernel
theorem d_X2_findMoves_1 : decode (zmc m_X2_findMoves) 1 = .ok (.iconst 0, 1) := by decide +kernel
theorem d_X2_findMoves_2 : decode (zmc m_X2_findMoves) 2 = .ok (.putfield 38, 3) := by decide +kernel
theorem d_X2_findMoves_5 : decode (zmc m_X2_findMoves) 5 = .ok (.aload_n 0, 1) := by decide +kernel
theorem d_X2_findMoves_6 : decode (zmc m_X2_findMoves) 6 = .ok (.iconst 0, 1) := by decide +kernel
theorem d_X2_findMoves_7 : decode (zmc m_X2_findMoves) 7 = .ok (.putfield 41, 3) := by decide +kernel
theorem d_X2_findMoves_10 : decode (zmc m_X2_findMoves) 10 = .ok (.bipush (-5), 2) := by decide +kernel
theorem d_X2_findMoves_12 : decode (zmc m_X2_findMoves) 12 = .ok (.istore_n 1, 1) := by decide +kernel
theorem d_X2_findMoves_13 : decode (zmc m_X2_findMoves) 13 = .ok (.iload_n 1, 1) := by decide +kernel
theorem d_X2_findMoves_14 : decode (zmc m_X2_findMoves) 14 = .ok (.iconst 5, 1) := by decide +kernel
theorem d_X2_findMoves_15 : decode (zmc m_X2_findMoves) 15 = .ok (.if_icmp .gt 68, 3) := by decide +kernel
theorem d_X2_findMoves_18 : decode (zmc m_X2_findMoves) 18 = .ok (.bipush (-7), 2) := by decide +kernel
theorem d_X2_findMoves_20 : decode (zmc m_X2_findMoves) 20 = .ok (.istore_n 2, 1) := by decide +kernel
theorem d_X2_findMoves_21 : decode (zmc m_X2_findMoves) 21 = .ok (.iload_n 2, 1) := by decide +kernel
theorem d_X2_findMoves_22 : decode (zmc m_X2_findMoves) 22 = .ok (.bipush 7, 2) := by decide +kernel
theorem d_X2_findMoves_24 : decode (zmc m_X2_findMoves) 24 = .ok (.if_icmp .gt 53, 3) := by decide +kernel
theorem d_X2_findMoves_27 : decode (zmc m_X2_findMoves) 27 = .ok (.aload_n 0, 1) := by decide +kernel
theorem d_X2_findMoves_28 : decode (zmc m_X2_findMoves) 28 = .ok (.iload_n 2, 1) := by decide +kernel
theorem d_X2_findMoves_29 : decode (zmc m_X2_findMoves) 29 = .ok (.iload_n 1, 1) := by decide +kernel
theorem d_X2_findMoves_30 : decode (zmc m_X2_findMoves) 30 = .ok (.invokevirtual 44, 3) := by decide +kernel
theorem d_X2_findMoves_33 : decode (zmc m_X2_findMoves) 33 = .ok (.ifCond .ne 6, 3) := by decide +kernel
theorem d_X2_findMoves_36 : decode (zmc m_X2_findMoves) 36 = .ok (.goto 35, 3) := by decide +kernel
theorem d_X2_findMoves_39 : decode (zmc m_X2_findMoves) 39 = .ok (.aload_n 0, 1) := by decide +kernel
theorem d_X2_findMoves_40 : decode (zmc m_X2_findMoves) 40 = .ok (.getfield 38, 3) := by decide +kernel
theorem d_X2_findMoves_43 : decode (zmc m_X2_findMoves) 43 = .ok (.ifCond .ne 18, 3) := by decide +kernel
theorem d_X2_findMoves_46 : decode (zmc m_X2_findMoves) 46 = .ok (.aload_n 0, 1) := by decide +kernel
theorem d_X2_findMoves_47 : decode (zmc m_X2_findMoves) 47 = .ok (.bipush 15, 2) := by decide +kernel
theorem d_X2_findMoves_49 : decode (zmc m_X2_findMoves) 49 = .ok (.iload_n 1, 1) := by decide +kernel
theorem d_X2_findMoves_50 : decode (zmc m_X2_findMoves) 50 = .ok (.iconst 5, 1) := by decide +kernel
theorem d_X2_findMoves_51 : decode (zmc m_X2_findMoves) 51 = .ok (.iadd, 1) := by decide +kernel
theorem d_X2_findMoves_52 : decode (zmc m_X2_findMoves) 52 = .ok (.imul, 1) := by decide +kernel
theorem d_X2_findMoves_53 : decode (zmc m_X2_findMoves) 53 = .ok (.iload_n 2, 1) := by decide +kernel
theorem d_X2_findMoves_54 : decode (zmc m_X2_findMoves) 54 = .ok (.iadd, 1) := by decide +kernel
theorem d_X2_findMoves_55 : decode (zmc m_X2_findMoves) 55 = .ok (.bipush 7, 2) := by decide +kernel
theorem d_X2_findMoves_57 : decode (zmc m_X2_findMoves) 57 = .ok (.iadd, 1) := by decide +kernel
theorem d_X2_findMoves_58 : decode (zmc m_X2_findMoves) 58 = .ok (.putfield 41, 3) := by decide +kernel
theorem d_X2_findMoves_61 : decode (zmc m_X2_findMoves) 61 = .ok (.aload_n 0, 1) := by decide +kernel
theorem d_X2_findMoves_62 : decode (zmc m_X2_findMoves) 62 = .ok (.dup, 1) := by decide +kernel
theorem d_X2_findMoves_63 : decode (zmc m_X2_findMoves) 63 = .ok (.getfield 38, 3) := by decide +kernel
theorem d_X2_findMoves_66 : decode (zmc m_X2_findMoves) 66 = .ok (.iconst 1, 1) := by decide +kernel
theorem d_X2_findMoves_67 : decode (zmc m_X2_findMoves) 67 = .ok (.iadd, 1) := by decide +kernel
theorem d_X2_findMoves_68 : decode (zmc m_X2_findMoves) 68 = .ok (.putfield 38, 3) := by decide +kernel
theorem d_X2_findMoves_71 : decode (zmc m_X2_findMoves) 71 = .ok (.iinc 2 1, 3) := by decide +kernel
theorem d_X2_findMoves_74 : decode (zmc m_X2_findMoves) 74 = .ok (.goto (-53), 3) := by decide +kernel
theorem d_X2_findMoves_77 : decode (zmc m_X2_findMoves) 77 = .ok (.iinc 1 1, 3) := by decide +kernel
theorem d_X2_findMoves_80 : decode (zmc m_X2_findMoves) 80 = .ok (.goto (-67), 3) := by decide +kernel
theorem d_X2_findMoves_83 : decode (zmc m_X2_findMoves) 83 = .ok (.return_, 1) := by decide +kernel
theorem d_X2_fits_0 : decode (zmc m_X2_fits) 0 = .ok (.iconst 0, 1) := by decide +kernel
theorem d_X2_fits_1 : decode (zmc m_X2_fits) 1 = .ok (.istore_n 3, 1) := by decide +kernel
theorem d_X2_fits_2 : decode (zmc m_X2_fits) 2 = .ok (.iload_n 3, 1) := by decide +kernel
theorem d_X2_fits_3 : decode (zmc m_X2_fits) 3 = .ok (.aload_n 0, 1) := by decide +kernel
theorem d_X2_fits_4 : decode (zmc m_X2_fits) 4 = .ok (.getfield 22, 3) := by decide +kernel
theorem d_X2_fits_7 : decode (zmc m_X2_fits) 7 = .ok (.if_icmp .ge 77, 3) := by decide +kernel
theorem d_X2_fits_10 : decode (zmc m_X2_fits) 10 = .ok (.aload_n 0, 1) := by decide +kernel
theorem d_X2_fits_11 : decode (zmc m_X2_fits) 11 = .ok (.getfield 11, 3) := by decide +kernel
theorem d_X2_fits_14 : decode (zmc m_X2_fits) 14 = .ok (.iload_n 3, 1) := by decide +kernel
theorem d_X2_fits_15 : decode (zmc m_X2_fits) 15 = .ok (.iaload, 1) := by decide +kernel
theorem d_X2_fits_16 : decode (zmc m_X2_fits) 16 = .ok (.iload_n 1, 1) := by decide +kernel
theorem d_X2_fits_17 : decode (zmc m_X2_fits) 17 = .ok (.iadd, 1) := by decide +kernel
theorem d_X2_fits_18 : decode (zmc m_X2_fits) 18 = .ok (.istore 4, 2) := by decide +kernel
theorem d_X2_fits_20 : decode (zmc m_X2_fits) 20 = .ok (.aload_n 0, 1) := by decide +kernel
theorem d_X2_fits_21 : decode (zmc m_X2_fits) 21 = .ok (.getfield 15, 3) := by decide +kernel
theorem d_X2_fits_24 : decode (zmc m_X2_fits) 24 = .ok (.iload_n 3, 1) := by decide +kernel
theorem d_X2_fits_25 : decode (zmc m_X2_fits) 25 = .ok (.iaload, 1) := by decide +kernel
theorem d_X2_fits_26 : decode (zmc m_X2_fits) 26 = .ok (.iload_n 2, 1) := by decide +kernel
theorem d_X2_fits_27 : decode (zmc m_X2_fits) 27 = .ok (.iadd, 1) := by decide +kernel
theorem d_X2_fits_28 : decode (zmc m_X2_fits) 28 = .ok (.istore 5, 2) := by decide +kernel
theorem d_X2_fits_30 : decode (zmc m_X2_fits) 30 = .ok (.iload 4, 2) := by decide +kernel
theorem d_X2_fits_32 : decode (zmc m_X2_fits) 32 = .ok (.ifCond .lt 22, 3) := by decide +kernel
theorem d_X2_fits_35 : decode (zmc m_X2_fits) 35 = .ok (.iload 4, 2) := by decide +kernel
theorem d_X2_fits_37 : decode (zmc m_X2_fits) 37 = .ok (.bipush 8, 2) := by decide +kernel
theorem d_X2_fits_39 : decode (zmc m_X2_fits) 39 = .ok (.if_icmp .ge 15, 3) := by decide +kernel
theorem d_X2_fits_42 : decode (zmc m_X2_fits) 42 = .ok (.iload 5, 2) := by decide +kernel
theorem d_X2_fits_44 : decode (zmc m_X2_fits) 44 = .ok (.ifCond .lt 10, 3) := by decide +kernel
theorem d_X2_fits_47 : decode (zmc m_X2_fits) 47 = .ok (.iload 5, 2) := by decide +kernel
theorem d_X2_fits_49 : decode (zmc m_X2_fits) 49 = .ok (.bipush 6, 2) := by decide +kernel
theorem d_X2_fits_51 : decode (zmc m_X2_fits) 51 = .ok (.if_icmp .lt 5, 3) := by decide +kernel
theorem d_X2_fits_54 : decode (zmc m_X2_fits) 54 = .ok (.iconst 0, 1) := by decide +kernel
theorem d_X2_fits_55 : decode (zmc m_X2_fits) 55 = .ok (.ireturn, 1) := by decide +kernel
theorem d_X2_fits_56 : decode (zmc m_X2_fits) 56 = .ok (.aload_n 0, 1) := by decide +kernel
theorem d_X2_fits_57 : decode (zmc m_X2_fits) 57 = .ok (.getfield 18, 3) := by decide +kernel
theorem d_X2_fits_60 : decode (zmc m_X2_fits) 60 = .ok (.bipush 8, 2) := by decide +kernel
theorem d_X2_fits_62 : decode (zmc m_X2_fits) 62 = .ok (.iload 5, 2) := by decide +kernel
theorem d_X2_fits_64 : decode (zmc m_X2_fits) 64 = .ok (.imul, 1) := by decide +kernel
theorem d_X2_fits_65 : decode (zmc m_X2_fits) 65 = .ok (.iload 4, 2) := by decide +kernel
theorem d_X2_fits_67 : decode (zmc m_X2_fits) 67 = .ok (.iadd, 1) := by decide +kernel
theorem d_X2_fits_68 : decode (zmc m_X2_fits) 68 = .ok (.invokevirtual 47, 3) := by decide +kernel
theorem d_X2_fits_71 : decode (zmc m_X2_fits) 71 = .ok (.bipush (-2), 2) := by decide +kernel
theorem d_X2_fits_73 : decode (zmc m_X2_fits) 73 = .ok (.if_icmp .ne 5, 3) := by decide +kernel
theorem d_X2_fits_76 : decode (zmc m_X2_fits) 76 = .ok (.iconst 0, 1) := by decide +kernel
theorem d_X2_fits_77 : decode (zmc m_X2_fits) 77 = .ok (.ireturn, 1) := by decide +kernel
theorem d_X2_fits_78 : decode (zmc m_X2_fits) 78 = .ok (.iinc 3 1, 3) := by decide +kernel
theorem d_X2_fits_81 : decode (zmc m_X2_fits) 81 = .ok (.goto (-79), 3) := by decide +kernel
theorem d_X2_fits_84 : decode (zmc m_X2_fits) 84 = .ok (.iconst 1, 1) := by decide +kernel
theorem d_X2_fits_85 : decode (zmc m_X2_fits) 85 = .ok (.ireturn, 1) := by decide +kernel
theorem d_X2_read_0 : decode (zmc m_X2_read) 0 = .ok (.aload_n 0, 1) := by decide +kernel
theorem d_X2_read_1 : decode (zmc m_X2_read) 1 = .ok (.iconst 0, 1) := by decide +kernel
theorem d_X2_read_2 : decode (zmc m_X2_read) 2 = .ok (.putfield 22, 3) := by decide +kernel
theorem d_X2_read_5 : decode (zmc m_X2_read) 5 = .ok (.iconst 0, 1) := by decide +kernel
theorem d_X2_read_6 : decode (zmc m_X2_read) 6 = .ok (.istore_n 3, 1) := by decide +kernel
theorem d_X2_read_7 : decode (zmc m_X2_read) 7 = .ok (.iload_n 3, 1) := by decide +kernel
theorem d_X2_read_8 : decode (zmc m_X2_read) 8 = .ok (.bipush 8, 2) := by decide +kernel
theorem d_X2_read_10 : decode (zmc m_X2_read) 10 = .ok (.if_icmp .ge 75, 3) := by decide +kernel
theorem d_X2_read_13 : decode (zmc m_X2_read) 13 = .ok (.aload_n 1, 1) := by decide +kernel
theorem d_X2_read_14 : decode (zmc m_X2_read) 14 = .ok (.iload_n 3, 1) := by decide +kernel
theorem d_X2_read_15 : decode (zmc m_X2_read) 15 = .ok (.invokevirtual 26, 3) := by decide +kernel
theorem d_X2_read_18 : decode (zmc m_X2_read) 18 = .ok (.istore 4, 2) := by decide +kernel
theorem d_X2_read_20 : decode (zmc m_X2_read) 20 = .ok (.aload_n 0, 1) := by decide +kernel
theorem d_X2_read_21 : decode (zmc m_X2_read) 21 = .ok (.getfield 18, 3) := by decide +kernel
theorem d_X2_read_24 : decode (zmc m_X2_read) 24 = .ok (.iconst 0, 1) := by decide +kernel
theorem d_X2_read_25 : decode (zmc m_X2_read) 25 = .ok (.iload 4, 2) := by decide +kernel
theorem d_X2_read_27 : decode (zmc m_X2_read) 27 = .ok (.invokevirtual 34, 3) := by decide +kernel
theorem d_X2_read_30 : decode (zmc m_X2_read) 30 = .ok (.ifCond .ne 4, 3) := by decide +kernel
theorem d_X2_read_33 : decode (zmc m_X2_read) 33 = .ok (.return_, 1) := by decide +kernel
theorem d_X2_read_34 : decode (zmc m_X2_read) 34 = .ok (.iload 4, 2) := by decide +kernel
theorem d_X2_read_36 : decode (zmc m_X2_read) 36 = .ok (.bipush 8, 2) := by decide +kernel
theorem d_X2_read_38 : decode (zmc m_X2_read) 38 = .ok (.irem, 1) := by decide +kernel
theorem d_X2_read_39 : decode (zmc m_X2_read) 39 = .ok (.istore 5, 2) := by decide +kernel
theorem d_X2_read_41 : decode (zmc m_X2_read) 41 = .ok (.aload_n 0, 1) := by decide +kernel
theorem d_X2_read_42 : decode (zmc m_X2_read) 42 = .ok (.getfield 11, 3) := by decide +kernel
theorem d_X2_read_45 : decode (zmc m_X2_read) 45 = .ok (.iload_n 3, 1) := by decide +kernel
theorem d_X2_read_46 : decode (zmc m_X2_read) 46 = .ok (.iload_n 2, 1) := by decide +kernel
theorem d_X2_read_47 : decode (zmc m_X2_read) 47 = .ok (.ifCond .eq 11, 3) := by decide +kernel
theorem d_X2_read_50 : decode (zmc m_X2_read) 50 = .ok (.bipush 7, 2) := by decide +kernel
theorem d_X2_read_52 : decode (zmc m_X2_read) 52 = .ok (.iload 5, 2) := by decide +kernel
theorem d_X2_read_54 : decode (zmc m_X2_read) 54 = .ok (.isub, 1) := by decide +kernel
theorem d_X2_read_55 : decode (zmc m_X2_read) 55 = .ok (.goto 5, 3) := by decide +kernel
theorem d_X2_read_58 : decode (zmc m_X2_read) 58 = .ok (.iload 5, 2) := by decide +kernel
theorem d_X2_read_60 : decode (zmc m_X2_read) 60 = .ok (.iastore, 1) := by decide +kernel
theorem d_X2_read_61 : decode (zmc m_X2_read) 61 = .ok (.aload_n 0, 1) := by decide +kernel
theorem d_X2_read_62 : decode (zmc m_X2_read) 62 = .ok (.getfield 15, 3) := by decide +kernel
theorem d_X2_read_65 : decode (zmc m_X2_read) 65 = .ok (.iload_n 3, 1) := by decide +kernel
theorem d_X2_read_66 : decode (zmc m_X2_read) 66 = .ok (.iload 4, 2) := by decide +kernel
theorem d_X2_read_68 : decode (zmc m_X2_read) 68 = .ok (.bipush 8, 2) := by decide +kernel
theorem d_X2_read_70 : decode (zmc m_X2_read) 70 = .ok (.idiv, 1) := by decide +kernel
theorem d_X2_read_71 : decode (zmc m_X2_read) 71 = .ok (.iastore, 1) := by decide +kernel
theorem d_X2_read_72 : decode (zmc m_X2_read) 72 = .ok (.aload_n 0, 1) := by decide +kernel
theorem d_X2_read_73 : decode (zmc m_X2_read) 73 = .ok (.iload_n 3, 1) := by decide +kernel
theorem d_X2_read_74 : decode (zmc m_X2_read) 74 = .ok (.iconst 1, 1) := by decide +kernel
theorem d_X2_read_75 : decode (zmc m_X2_read) 75 = .ok (.iadd, 1) := by decide +kernel
theorem d_X2_read_76 : decode (zmc m_X2_read) 76 = .ok (.putfield 22, 3) := by decide +kernel
theorem d_X2_read_79 : decode (zmc m_X2_read) 79 = .ok (.iinc 3 1, 3) := by decide +kernel
theorem d_X2_read_82 : decode (zmc m_X2_read) 82 = .ok (.goto (-75), 3) := by decide +kernel
theorem d_X2_read_85 : decode (zmc m_X2_read) 85 = .ok (.return_, 1) := by decide +kernel
/-! THE CHART -/
/-- the least k below n, from k on, at which p fails; n -/
def zrl (p : Nat → Bool) : Nat → Nat → Nat
  | 0, k => k
  | m + 1, k => if p k = true then zrl p m (k + 1) else k
def zrun (p : Nat → Bool) (n k : Nat) : Nat := zrl p (n - k) k
theorem zrun_end {p : Nat → Bool} {n k : Nat} (h : n ≤ k) : zrun p n k = k := by
  unfold zrun; rw [Nat.sub_eq_zero_of_le h]; rfl
theorem zrun_t {p : Nat → Bool} {n k : Nat} (h : k < n) (e : p k = true) : zrun p n k = zrun p n (k + 1) := by
  unfold zrun; rw [show n - k = (n - (k + 1)) + 1 by omega]; exact if_pos e
theorem zrun_f {p : Nat → Bool} {n k : Nat} (e : ¬ p k = true) : zrun p n k = k := by
  unfold zrun
  cases h : n - k with
  | zero => rfl
  | succ m => exact if_neg e
theorem zrun_spec (p : Nat → Bool) (n : Nat) : ∀ k, k ≤ n → k ≤ zrun p n k ∧ zrun p n k ≤ n ∧ (∀ j, k ≤ j → j < zrun p n k → p j = true) ∧ (zrun p n k < n → ¬ p (zrun p n k) = true) := by
  refine zloop n (fun k hk ih => ?_)
  rcases Nat.eq_or_lt_of_le hk with e | hlt
  · rw [zrun_end (by omega)]
    exact ⟨Nat.le_refl _, hk, fun j h1 h2 => by omega, fun h => by omega⟩
  · by_cases hp : p k = true
    · rw [zrun_t hlt hp]
      obtain ⟨h1, h2, h3, h4⟩ := ih hlt
      refine ⟨by omega, h2, fun j h5 h6 => ?_, h4⟩
      rcases Nat.eq_or_lt_of_le h5 with rfl | h5
      · exact hp
      · exact h3 j h5 h6
    · rw [zrun_f hp]
      exact ⟨Nat.le_refl _, hk, fun j h1 h2 => by omega, fun _ => hp⟩
theorem zrun_congr {p q : Nat → Bool} {n k : Nat} (hk : k ≤ n) (h : ∀ j, k ≤ j → j < n → p j = q j) : zrun p n k = zrun q n k := by
  revert k
  intro k hk h
  induction e : n - k generalizing k with
  | zero => rw [zrun_end (by omega), zrun_end (by omega)]
  | succ m ih =>
    have hlt : k < n := by omega
    have e1 := h k (Nat.le_refl _) hlt
    by_cases hp : p k = true
    · rw [zrun_t hlt hp, zrun_t hlt (e1 ▸ hp)]
      exact ih (by omega) (fun j h1 h2 => h j (by omega) h2) (by omega)
    · rw [zrun_f hp, zrun_f (e1 ▸ hp)]
/-- a row's cell of the pattern, and how many there are -/
def zCell (I : Nat → Nat → Int32) (L : Nat → Nat → Int64) (h : Nat) (i : Nat) : Bool := decide (zMay 0 (zTold I L h (nI i)))
def zPatN (I : Nat → Nat → Int32) (L : Nat → Nat → Int64) (h : Nat) : Nat := zrun (zCell I L h) 8 0
def zPatX (I : Nat → Nat → Int32) (L : Nat → Nat → Int64) (h : Nat) (mir : Int32) (i : Nat) : Int32 := let c := zTold I L h (nI i); if mir = 0 then c - c / 8 * 8 else 7 - (c - c / 8 * 8)
def zPatY (I : Nat → Nat → Int32) (L : Nat → Nat → Int64) (h : Nat) (i : Nat) : Int32 := zTold I L h (nI i) / 8
def zOn (I : Nat → Nat → Int32) (ns : Nat) (x y : Int32) : Prop := ((0 ≤ x ∧ x < 8) ∧ (0 ≤ y ∧ y < 6)) ∧ ¬ zfind (I 3) (8 * y + x) ns 0 = -2
abbrev zOnB (I : Nat → Nat → Int32) (ns : Nat) (x y : Int32) : Prop := ((0 ≤ x ∧ x < 8) ∧ (0 ≤ y ∧ y < 6)) ∧ ¬ zfind (I 3) (8 * y + x) ns 0 = -2
def zFitN (I : Nat → Nat → Int32) (ns : Nat) (X Y : Nat → Int32) (n : Nat) (bx b_y : Int32) : Prop := zrun (fun i => decide (zOnB I ns (X i + bx) (Y i + b_y))) n 0 = n
abbrev zFit (I : Nat → Nat → Int32) (ns : Nat) (X Y : Nat → Int32) (n : Nat) (bx b_y : Int32) : Prop := zrun (fun i => decide (zOnB I ns (X i + bx) (Y i + b_y))) n 0 = n
def zMvI (fit : Int32 → Int32 → Bool) (y : Int32) (i : Nat) (s : Int32 × Int32) : Int32 × Int32 := if fit (nI i - 7) y = true then (s.1 + 1, if s.1 = 0 then 15 * (y + 5) + (nI i - 7) + 7 else s.2) else s
def zMv (fit : Int32 → Int32 → Bool) (z : Int32) : Int32 × Int32 := zfor (fun j s => zfor (zMvI fit (nI j - 5)) 15 0 s) 11 0 (0, z)
theorem zCastI {g : zG} {l : Launch} {d n0 n1 n pc : Nat} {M : zM} {I J : Nat → Nat → Int32} {L : Nat → Nat → Int64} {R : Nat → Nat → Option Nat} {lv : List (Nat × Value)} {st : List Value} {Q : Option Value → zW → Prop} (e : J = I) (k : zAW g l d n0 n1 M (J, L, R, n) pc lv st Q) : zAW g l d n0 n1 M (I, L, R, n) pc lv st Q := e ▸ k
section S16
variable {g : zG} {l : Launch} {d : Nat} {I : Nat → Nat → Int32} {L : Nat → Nat → Int64} {fs : Nat × Nat × Option Nat} {ns nt nh h : Nat}
theorem sp_X2_read (hd : 3 ≤ d) (hh : zShf h) (hne : 42 ≤ h) {n : Nat} (hn : I h 2 = nI n) (hn2 : n ≤ 60) {mir : Int32} : zSp g l d 100 m_X2_read [.ref 19, .ref h, .int mir] (zU I L fs) (zV (fun w => ∃ X Y, w = zU (zup (zup (zup I 20 X) 21 Y) 19 (zup (I 19) 3 (nI (zPatN I L h)))) L fs ∧ ∀ i, i < zPatN I L h → X i = zPatX I L h mir i ∧ Y i = zPatY I L h i)) := by
  have loop : ∀ k, k ≤ 8 → ∀ X Y, (∀ i, i < k → X i = zPatX I L h mir i ∧ Y i = zPatY I L h i) → zrun (zCell I L h) 8 k = zPatN I L h → zA g l d m_X2_read (zup (zup (zup I 20 X) 21 Y) 19 (zup (I 19) 3 (nI k))) L fs 7 [(3, .int (nI k)), (0, .ref 19), (1, .ref h), (2, .int mir)] (zV (fun w => ∃ X Y, w = zU (zup (zup (zup I 20 X) 21 Y) 19 (zup (I 19) 3 (nI (zPatN I L h)))) L fs ∧ ∀ i, i < zPatN I L h → X i = zPatX I L h mir i ∧ Y i = zPatY I L h i)) := by
    refine zloop 8 (fun k hk ih X Y hXY hx => ?_)
    have eh : (zup (zup (zup I 20 X) 21 Y) 19 (zup (I 19) 3 (nI k))) h = I h := by rw [zup_ne (by omega), zup_ne (by omega), zup_ne (by omega)]
    have et : ∀ i, zTold (zup (zup (zup I 20 X) 21 Y) 19 (zup (I 19) 3 (nI k))) L h i = zTold I L h i := fun i => by unfold zTold; rw [eh]
    refine zIloadN d_X2_read_7 rfl rfl (q := 8) rfl ?_
    refine zBipush d_X2_read_8 (v := 8) bc_8 (q := 10) rfl ?_
    refine zIcmp_ge d_X2_read_10 (tgt := 85) (q := 13) (by decide) rfl (fun h10 => ?_) (fun h10 => ?_)
    · have e := nle (b := 8) h10
      have ek : k = zPatN I L h := by rw [← hx, zrun_end e]
      refine zVret d_X2_read_85 rfl rfl ?_
      exact ⟨rfl, X, Y, by rw [← ek], fun i hi => hXY i (by omega)⟩
    · have hlt := nnle (b := 8) h10
      refine zAloadN d_X2_read_13 rfl rfl (q := 14) rfl ?_
      refine zIloadN d_X2_read_14 rfl rfl (q := 15) rfl ?_
      refine zCallVP d_X2_read_15 ml_X2_26 k_X8_told ki_X8_told ks_X8_told (sp_X8_told (d := d - 1) (by omega) hh (by rw [eh]; exact hn) hn2) rfl rfl hh.1 (by decide) rfl (Nat.lt_of_succ_lt hh.2.2.1) (Nat.le_of_ble_eq_true rfl) (by decide) (by omega) zns100 (q := 18) rfl ?_
      rw [et]
      refine zIstore d_X2_read_18 (by decide) rfl (q := 20) rfl ?_
      refine zAloadN d_X2_read_20 rfl rfl (q := 21) rfl ?_
      refine zGetR d_X2_read_21 ff_X2_18 sh_19 (by decide) r_19_0 (q := 24) rfl ?_
      refine zIconst d_X2_read_24 (v := 0) ic_0 (q := 25) rfl ?_
      refine zIload d_X2_read_25 rfl (q := 27) rfl ?_
      refine zCallVP d_X2_read_27 ml_X2_34 k_X9_mayBe ki_X9_mayBe ks_X9_mayBe (sp_X9_mayBe (d := d - 1) (by omega) ) rfl rfl sh_1 (by decide) rfl (by decide) (Nat.le_of_ble_eq_true rfl) (by decide) (by omega) zns100 (q := 30) rfl ?_
      refine zIf_ne d_X2_read_30 (tgt := 34) (q := 33) (by decide) rfl (fun h30 => ?_) (fun h30 => ?_)
      · have hc : zCell I L h k = true := by unfold zCell; rw [decide_eq_true_eq]; exact bi_n0.mp h30
        rw [zrun_t hlt hc] at hx
        refine zIload d_X2_read_34 rfl (q := 36) rfl ?_
        refine zBipush d_X2_read_36 (v := 8) bc_8 (q := 38) rfl ?_
        refine zIrem d_X2_read_38 (by decide) (q := 39) rfl ?_
        refine zIstore d_X2_read_39 (by decide) rfl (q := 41) rfl ?_
        refine zAloadN d_X2_read_41 rfl rfl (q := 42) rfl ?_
        refine zGetR d_X2_read_42 ff_X2_11 sh_19 (by decide) r_19_1 (q := 45) rfl ?_
        refine zIloadN d_X2_read_45 rfl rfl (q := 46) rfl ?_
        refine zIloadN d_X2_read_46 rfl rfl (q := 47) rfl ?_
        refine zIf_eq d_X2_read_47 (tgt := 58) (q := 50) (by decide) rfl (fun h47 => ?_) (fun h47 => ?_)
        · refine zIload d_X2_read_58 rfl (q := 60) rfl ?_
          refine zIast d_X2_read_60 sh_20 (by decide) rfl (by omega) (q := 61) rfl ?_
          refine zAloadN d_X2_read_61 rfl rfl (q := 62) rfl ?_
          refine zGetR d_X2_read_62 ff_X2_15 sh_19 (by decide) r_19_2 (q := 65) rfl ?_
          refine zIloadN d_X2_read_65 rfl rfl (q := 66) rfl ?_
          refine zIload d_X2_read_66 rfl (q := 68) rfl ?_
          refine zBipush d_X2_read_68 (v := 8) bc_8 (q := 70) rfl ?_
          refine zIdiv d_X2_read_70 (by decide) (q := 71) rfl ?_
          refine zIast d_X2_read_71 sh_21 (by decide) rfl (by omega) (q := 72) rfl ?_
          refine zAloadN d_X2_read_72 rfl rfl (q := 73) rfl ?_
          refine zIloadN d_X2_read_73 rfl rfl (q := 74) rfl ?_
          refine zIconst d_X2_read_74 (v := 1) ic_1 (q := 75) rfl ?_
          refine zIadd d_X2_read_75 (q := 76) rfl ?_
          refine zPutI d_X2_read_76 ff_X2_22 rfl rfl rfl sh_19 (by decide) (q := 79) rfl ?_
          refine zIinc d_X2_read_79 rfl (zinc _) (by decide) rfl (q := 82) rfl ?_
          refine zGoto d_X2_read_82 (q := 7) (by decide) ?_
          refine zSub [0, 3, 4, 5] rfl ?_
          rw [nI_1]
          have key := ih hlt (zup X k (zPatX I L h mir k)) (zup Y k (zPatY I L h k)) (fun i hi => by
            by_cases q : i = k
            · subst q; exact ⟨zup_eq, zup_eq⟩
            · rw [zup_ne q, zup_ne q]; exact hXY i (by omega)) hx
          refine zCastI ?_ key
          funext a
          by_cases a19 : a = 19
          · subst a19
            exact (zup_zup (f := I 19) (k := 3) (x := nI k) (y := nI (k + 1))).symm
          · by_cases a20 : a = 20
            · subst a20
              show zup X k (zPatX I L h mir k) = zup X k _
              congr 1
              unfold zPatX
              first | exact if_pos h47 | exact if_neg h47
            · by_cases a21 : a = 21
              · subst a21
                rfl
              · simp [zup, a19, a20, a21]
        · refine zBipush d_X2_read_50 (v := 7) bc_7 (q := 52) rfl ?_
          refine zIload d_X2_read_52 rfl (q := 54) rfl ?_
          refine zIsub d_X2_read_54 (q := 55) rfl ?_
          refine zGoto d_X2_read_55 (q := 60) (by decide) ?_
          refine zIast d_X2_read_60 sh_20 (by decide) rfl (by omega) (q := 61) rfl ?_
          refine zAloadN d_X2_read_61 rfl rfl (q := 62) rfl ?_
          refine zGetR d_X2_read_62 ff_X2_15 sh_19 (by decide) r_19_2 (q := 65) rfl ?_
          refine zIloadN d_X2_read_65 rfl rfl (q := 66) rfl ?_
          refine zIload d_X2_read_66 rfl (q := 68) rfl ?_
          refine zBipush d_X2_read_68 (v := 8) bc_8 (q := 70) rfl ?_
          refine zIdiv d_X2_read_70 (by decide) (q := 71) rfl ?_
          refine zIast d_X2_read_71 sh_21 (by decide) rfl (by omega) (q := 72) rfl ?_
          refine zAloadN d_X2_read_72 rfl rfl (q := 73) rfl ?_
          refine zIloadN d_X2_read_73 rfl rfl (q := 74) rfl ?_
          refine zIconst d_X2_read_74 (v := 1) ic_1 (q := 75) rfl ?_
          refine zIadd d_X2_read_75 (q := 76) rfl ?_
          refine zPutI d_X2_read_76 ff_X2_22 rfl rfl rfl sh_19 (by decide) (q := 79) rfl ?_
          refine zIinc d_X2_read_79 rfl (zinc _) (by decide) rfl (q := 82) rfl ?_
          refine zGoto d_X2_read_82 (q := 7) (by decide) ?_
          refine zSub [0, 3, 4, 5] rfl ?_
          rw [nI_1]
          have key := ih hlt (zup X k (zPatX I L h mir k)) (zup Y k (zPatY I L h k)) (fun i hi => by
            by_cases q : i = k
            · subst q; exact ⟨zup_eq, zup_eq⟩
            · rw [zup_ne q, zup_ne q]; exact hXY i (by omega)) hx
          refine zCastI ?_ key
          funext a
          by_cases a19 : a = 19
          · subst a19
            exact (zup_zup (f := I 19) (k := 3) (x := nI k) (y := nI (k + 1))).symm
          · by_cases a20 : a = 20
            · subst a20
              show zup X k (zPatX I L h mir k) = zup X k _
              congr 1
              unfold zPatX
              first | exact if_pos h47 | exact if_neg h47
            · by_cases a21 : a = 21
              · subst a21
                rfl
              · simp [zup, a19, a20, a21]
      · have hc : ¬ zCell I L h k = true := by unfold zCell; rw [decide_eq_true_eq]; exact bi_0.mp h30
        have ek : k = zPatN I L h := by rw [← hx, zrun_f hc]
        refine zVret d_X2_read_33 rfl rfl ?_
        exact ⟨rfl, X, Y, by rw [← ek], fun i hi => hXY i (by omega)⟩
  have e0 : zup (zup (zup I 20 (I 20)) 21 (I 21)) 19 (zup (I 19) 3 (nI 0)) = zup I 19 (zup (I 19) 3 0) := by rw [zup_self, zup_self]; rfl
  have h0 := loop 0 (Nat.zero_le _) (I 20) (I 21) (fun i hi => by omega) rfl
  rw [e0] at h0
  refine zSp_of (lv := [(0, .ref 19), (1, .ref h), (2, .int mir)]) k_X2_read rfl (Nat.le_of_ble_eq_true rfl) ?_
  refine zAloadN d_X2_read_0 rfl rfl (q := 1) rfl ?_
  refine zIconst d_X2_read_1 (v := 0) ic_0 (q := 2) rfl ?_
  refine zPutI d_X2_read_2 ff_X2_22 rfl rfl rfl sh_19 (by decide) (q := 5) rfl ?_
  refine zIconst d_X2_read_5 (v := 0) ic_0 (q := 6) rfl ?_
  refine zIstoreN d_X2_read_6 rfl (by decide) rfl (q := 7) rfl ?_
  refine zSub [0, 1, 2, 3] rfl ?_
  exact h0
theorem sp_X2_fits (hd : 2 ≤ d) (hK : zSky I ns nt nh) {n : Nat} (hn : I 19 3 = nI n) (h8 : n ≤ 8) {bx b_y : Int32} : zPure g l d m_X2_fits [.ref 19, .int bx, .int b_y] I L fs (.int (bi (zFit I ns (I 20) (I 21) n bx b_y))) := by
  have loop : ∀ k, k ≤ n → zrun (fun i => decide (zOnB I ns (I 20 i + bx) (I 21 i + b_y))) n k = zrun (fun i => decide (zOnB I ns (I 20 i + bx) (I 21 i + b_y))) n 0 → zA g l d m_X2_fits I L fs 2 [(3, .int (nI k)), (0, .ref 19), (1, .int bx), (2, .int b_y)] (zP (.int (bi (zFit I ns (I 20) (I 21) n bx b_y))) (zU I L fs)) := by
    refine zloop n (fun k hk ih hx => ?_)
    refine zIloadN d_X2_fits_2 rfl rfl (q := 3) rfl ?_
    refine zAloadN d_X2_fits_3 rfl rfl (q := 4) rfl ?_
    refine zGetI d_X2_fits_4 ff_X2_22 sh_19 (by decide) (q := 7) rfl ?_
    refine zIcmp_ge d_X2_fits_7 (tgt := 84) (q := 10) (by decide) rfl (fun h7 => ?_) (fun h7 => ?_)
    · have e := nle (hn ▸ h7)
      have ek : k = n := by omega
      refine zIconst d_X2_fits_84 (v := 1) ic_1 (q := 85) rfl ?_
      refine zIret d_X2_fits_85 rfl rfl rfl ?_
      exact zPi (bi_t (by unfold zFit; rw [← hx, zrun_end e, ek])).symm
    · have hlt := nnle (hn ▸ h7)
      refine zAloadN d_X2_fits_10 rfl rfl (q := 11) rfl ?_
      refine zGetR d_X2_fits_11 ff_X2_11 sh_19 (by decide) r_19_1 (q := 14) rfl ?_
      refine zIloadN d_X2_fits_14 rfl rfl (q := 15) rfl ?_
      refine zIald d_X2_fits_15 sh_20 (by decide) rfl (by omega) (q := 16) rfl ?_
      refine zIloadN d_X2_fits_16 rfl rfl (q := 17) rfl ?_
      refine zIadd d_X2_fits_17 (q := 18) rfl ?_
      refine zIstore d_X2_fits_18 (by decide) rfl (q := 20) rfl ?_
      refine zAloadN d_X2_fits_20 rfl rfl (q := 21) rfl ?_
      refine zGetR d_X2_fits_21 ff_X2_15 sh_19 (by decide) r_19_2 (q := 24) rfl ?_
      refine zIloadN d_X2_fits_24 rfl rfl (q := 25) rfl ?_
      refine zIald d_X2_fits_25 sh_21 (by decide) rfl (by omega) (q := 26) rfl ?_
      refine zIloadN d_X2_fits_26 rfl rfl (q := 27) rfl ?_
      refine zIadd d_X2_fits_27 (q := 28) rfl ?_
      refine zIstore d_X2_fits_28 (by decide) rfl (q := 30) rfl ?_
      refine zIload d_X2_fits_30 rfl (q := 32) rfl ?_
      refine zIf_lt d_X2_fits_32 (tgt := 54) (q := 35) (by decide) rfl (fun h32 => ?_) (fun h32 => ?_)
      · refine zIconst d_X2_fits_54 (v := 0) ic_0 (q := 55) rfl ?_
        refine zIret d_X2_fits_55 rfl rfl rfl ?_
        have hc : ¬ zOnB I ns (I 20 k + bx) (I 21 k + b_y) := by rintro ⟨⟨⟨q1, q2⟩, q3, q4⟩, -⟩; grind
        have hr := zrun_f (p := fun i => decide (zOnB I ns (I 20 i + bx) (I 21 i + b_y))) (n := n) (k := k) (by rw [decide_eq_true_eq]; exact hc)
        exact zPi (bi_f (fun q => by unfold zFit at q; rw [← hx, hr] at q; omega)).symm
      · refine zIload d_X2_fits_35 rfl (q := 37) rfl ?_
        refine zBipush d_X2_fits_37 (v := 8) bc_8 (q := 39) rfl ?_
        refine zIcmp_ge d_X2_fits_39 (tgt := 54) (q := 42) (by decide) rfl (fun h39 => ?_) (fun h39 => ?_)
        · refine zIconst d_X2_fits_54 (v := 0) ic_0 (q := 55) rfl ?_
          refine zIret d_X2_fits_55 rfl rfl rfl ?_
          have hc : ¬ zOnB I ns (I 20 k + bx) (I 21 k + b_y) := by rintro ⟨⟨⟨q1, q2⟩, q3, q4⟩, -⟩; grind
          have hr := zrun_f (p := fun i => decide (zOnB I ns (I 20 i + bx) (I 21 i + b_y))) (n := n) (k := k) (by rw [decide_eq_true_eq]; exact hc)
          exact zPi (bi_f (fun q => by unfold zFit at q; rw [← hx, hr] at q; omega)).symm
        · refine zIload d_X2_fits_42 rfl (q := 44) rfl ?_
          refine zIf_lt d_X2_fits_44 (tgt := 54) (q := 47) (by decide) rfl (fun h44 => ?_) (fun h44 => ?_)
          · refine zIconst d_X2_fits_54 (v := 0) ic_0 (q := 55) rfl ?_
            refine zIret d_X2_fits_55 rfl rfl rfl ?_
            have hc : ¬ zOnB I ns (I 20 k + bx) (I 21 k + b_y) := by rintro ⟨⟨⟨q1, q2⟩, q3, q4⟩, -⟩; grind
            have hr := zrun_f (p := fun i => decide (zOnB I ns (I 20 i + bx) (I 21 i + b_y))) (n := n) (k := k) (by rw [decide_eq_true_eq]; exact hc)
            exact zPi (bi_f (fun q => by unfold zFit at q; rw [← hx, hr] at q; omega)).symm
          · refine zIload d_X2_fits_47 rfl (q := 49) rfl ?_
            refine zBipush d_X2_fits_49 (v := 6) bc_6 (q := 51) rfl ?_
            refine zIcmp_lt d_X2_fits_51 (tgt := 56) (q := 54) (by decide) rfl (fun h51 => ?_) (fun h51 => ?_)
            · refine zAloadN d_X2_fits_56 rfl rfl (q := 57) rfl ?_
              refine zGetR d_X2_fits_57 ff_X2_18 sh_19 (by decide) r_19_0 (q := 60) rfl ?_
              refine zBipush d_X2_fits_60 (v := 8) bc_8 (q := 62) rfl ?_
              refine zIload d_X2_fits_62 rfl (q := 64) rfl ?_
              refine zImul d_X2_fits_64 (q := 65) rfl ?_
              refine zIload d_X2_fits_65 rfl (q := 67) rfl ?_
              refine zIadd d_X2_fits_67 (q := 68) rfl ?_
              refine zCallVP d_X2_fits_68 ml_X2_47 k_X9_starIn ki_X9_starIn ks_X9_starIn (sp_X9_starIn (d := d - 1) (by omega) hK) rfl rfl sh_1 (by decide) rfl (by decide) (Nat.le_of_ble_eq_true rfl) (by decide) (by omega) zns100 (q := 71) rfl ?_
              refine zBipush d_X2_fits_71 (v := -2) bc_m2 (q := 73) rfl ?_
              refine zIcmp_ne d_X2_fits_73 (tgt := 78) (q := 76) (by decide) rfl (fun h73 => ?_) (fun h73 => ?_)
              · refine zIinc d_X2_fits_78 rfl (zinc _) (by decide) rfl (q := 81) rfl ?_
                refine zGoto d_X2_fits_81 (q := 2) (by decide) ?_
                refine zSub [0, 3, 4, 5] rfl ?_
                exact ih hlt (by rw [← hx, zrun_t hlt (by rw [decide_eq_true_eq]; exact ⟨⟨⟨by grind, by grind⟩, by grind, by grind⟩, h73⟩)])
              · refine zIconst d_X2_fits_76 (v := 0) ic_0 (q := 77) rfl ?_
                refine zIret d_X2_fits_77 rfl rfl rfl ?_
                have hc : ¬ zOnB I ns (I 20 k + bx) (I 21 k + b_y) := by rintro ⟨-, q⟩; exact q (by simpa using h73)
                have hr := zrun_f (p := fun i => decide (zOnB I ns (I 20 i + bx) (I 21 i + b_y))) (n := n) (k := k) (by rw [decide_eq_true_eq]; exact hc)
                exact zPi (bi_f (fun q => by unfold zFit at q; rw [← hx, hr] at q; omega)).symm
            · refine zIconst d_X2_fits_54 (v := 0) ic_0 (q := 55) rfl ?_
              refine zIret d_X2_fits_55 rfl rfl rfl ?_
              have hc : ¬ zOnB I ns (I 20 k + bx) (I 21 k + b_y) := by rintro ⟨⟨⟨q1, q2⟩, q3, q4⟩, -⟩; grind
              have hr := zrun_f (p := fun i => decide (zOnB I ns (I 20 i + bx) (I 21 i + b_y))) (n := n) (k := k) (by rw [decide_eq_true_eq]; exact hc)
              exact zPi (bi_f (fun q => by unfold zFit at q; rw [← hx, hr] at q; omega)).symm
  refine zSp_of (lv := [(0, .ref 19), (1, .int bx), (2, .int b_y)]) k_X2_fits rfl (Nat.le_of_ble_eq_true rfl) ?_
  refine zIconst d_X2_fits_0 (v := 0) ic_0 (q := 1) rfl ?_
  refine zIstoreN d_X2_fits_1 rfl (by decide) rfl (q := 2) rfl ?_
  refine zSub [0, 1, 2, 3] rfl ?_
  exact loop 0 (Nat.zero_le _) rfl
def zMvU (I : Nat → Nat → Int32) (s : Int32 × Int32) : Nat → Nat → Int32 := zup I 19 (zup (zup (I 19) 4 s.1) 5 s.2)
theorem sp_X2_findMoves (hd : 3 ≤ d) (hK : zSky I ns nt nh) {n : Nat} (hn : I 19 3 = nI n) (h8 : n ≤ 8) : zSp g l d 100 m_X2_findMoves [.ref 19] (zU I L fs) (zV (fun w => w = zU (zMvU I (zMv (fun x y => decide (zFit I ns (I 20) (I 21) n x y)) 0)) L fs)) := by
  obtain ⟨F, hF⟩ : ∃ F : Int32 → Int32 → Bool, F = fun x y => decide (zFit I ns (I 20) (I 21) n x y) := ⟨_, rfl⟩
  have hFit : ∀ (s : Int32 × Int32) (x y : Int32), zPure g l (d - 1) m_X2_fits [.ref 19, .int x, .int y] (zMvU I s) L fs (.int (bi (F x y = true))) := by
    intro s x y
    have h := sp_X2_fits (g := g) (l := l) (L := L) (fs := fs) (d := d - 1) (by omega) (zSky_up (a := 19) (f := zup (zup (I 19) 4 s.1) 5 s.2) hK (by decide)) (n := n) hn h8 (bx := x) (b_y := y)
    have e : bi (F x y = true) = bi (zFit I ns (I 20) (I 21) n x y) := bi_iff (by rw [hF, decide_eq_true_eq])
    rw [e]
    exact h
  rw [← hF]
  have inner : ∀ (y : Int32) (x0 : Int32 × Int32), (∀ (v : List (Nat × Value)) , zA g l d m_X2_findMoves (zMvU I x0) L fs 77 [(0, .ref 19), (1, .int y)] (zV (fun w => w = zU (zMvU I (zMv F 0)) L fs))) → ∀ i, i ≤ 15 → ∀ s, zfor (zMvI F y) 15 i s = x0 → zA g l d m_X2_findMoves (zMvU I s) L fs 21 [(2, .int (nI i - 7)), (0, .ref 19), (1, .int y)] (zV (fun w => w = zU (zMvU I (zMv F 0)) L fs)) := by
    intro y x0 K
    refine zloop 15 (fun i hi ih s hx => ?_)
    have e7 : ∀ i, i ≤ 15 → (nI i - 7).toInt = (i : Int) - 7 := fun i hi => pk_sub_toInt (b := 7) (by omega) (by omega)
    refine zIloadN d_X2_findMoves_21 rfl rfl (q := 22) rfl ?_
    refine zBipush d_X2_findMoves_22 (v := 7) bc_7 (q := 24) rfl ?_
    refine zIcmp_gt d_X2_findMoves_24 (tgt := 77) (q := 27) (by decide) rfl (fun h24 => ?_) (fun h24 => ?_)
    · have e : 15 ≤ i := by have h1 := Int32.lt_iff_toInt_lt.mp h24; rw [e7 i hi] at h1; have : (7 : Int32).toInt = 7 := rfl; omega
      rw [zfor_end e] at hx
      subst hx
      refine zSub [1, 2] rfl ?_
      exact K []
    · have hlt : i < 15 := by have h1 : ¬ (7 : Int32).toInt < (nI i - 7).toInt := fun q => h24 (Int32.lt_iff_toInt_lt.mpr q); rw [e7 i hi] at h1; have : (7 : Int32).toInt = 7 := rfl; omega
      rw [zfor_step hlt] at hx
      refine zAloadN d_X2_findMoves_27 rfl rfl (q := 28) rfl ?_
      refine zIloadN d_X2_findMoves_28 rfl rfl (q := 29) rfl ?_
      refine zIloadN d_X2_findMoves_29 rfl rfl (q := 30) rfl ?_
      refine zCallVP d_X2_findMoves_30 ml_X2_44 k_X2_fits ki_X2_fits ks_X2_fits (hFit _ _ _) rfl rfl sh_19 (by decide) rfl (by decide) (Nat.le_of_ble_eq_true rfl) (by decide) (by omega) zns100 (q := 33) rfl ?_
      refine zIf_ne d_X2_findMoves_33 (tgt := 39) (q := 36) (by decide) rfl (fun h33 => ?_) (fun h33 => ?_)
      · have hp := bi_n0.mp h33
        refine zAloadN d_X2_findMoves_39 rfl rfl (q := 40) rfl ?_
        refine zGetI d_X2_findMoves_40 ff_X2_38 sh_19 (by decide) (q := 43) rfl ?_
        refine zIf_ne d_X2_findMoves_43 (tgt := 61) (q := 46) (by decide) rfl (fun h43 => ?_) (fun h43 => ?_)
        · refine zAloadN d_X2_findMoves_61 rfl rfl (q := 62) rfl ?_
          refine zDup d_X2_findMoves_62 rfl (q := 63) rfl ?_
          refine zGetI d_X2_findMoves_63 ff_X2_38 sh_19 (by decide) (q := 66) rfl ?_
          refine zIconst d_X2_findMoves_66 (v := 1) ic_1 (q := 67) rfl ?_
          refine zIadd d_X2_findMoves_67 (q := 68) rfl ?_
          refine zPutI d_X2_findMoves_68 ff_X2_38 rfl rfl rfl sh_19 (by decide) (q := 71) rfl ?_
          refine zIinc d_X2_findMoves_71 rfl (show nI i - 7 + Int32.ofInt 1 = nI (i + 1) - 7 by rw [show Int32.ofInt 1 = (1 : Int32) from rfl, ← nI_1]; grind) (by decide) rfl (q := 74) rfl ?_
          refine zGoto d_X2_findMoves_74 (q := 21) (by decide) ?_
          refine zSub [0, 1, 2] rfl ?_
          refine (?_ : zA g l d m_X2_findMoves _ L fs 21 _ _)
          first
          | exact ih hlt s (by rw [← hx]; unfold zMvI; rw [if_neg hp])
          | (have key := ih hlt (s.1 + 1, if s.1 = 0 then 15 * (y + 5) + (nI i - 7) + 7 else s.2) (by rw [← hx]; unfold zMvI; rw [if_pos hp])
             have h43' : s.1 = 0 := h43
             rw [if_pos h43'] at key
             have e : zup (zup (zMvU I s) 19 (zup ((zMvU I s) 19) 5 (15 * (y + 5) + (nI i - 7) + 7))) 19 (zup ((zup (zMvU I s) 19 (zup ((zMvU I s) 19) 5 (15 * (y + 5) + (nI i - 7) + 7))) 19) 4 (s.1 + 1)) = zMvU I (s.1 + 1, 15 * (y + 5) + (nI i - 7) + 7) := by
               unfold zMvU
               rw [zup_zup, zup_zup, zup_eq, zup_eq, zup_zup, zup_3 (show (4 : Nat) ≠ 5 by decide)]
             exact e ▸ key)
          | (have key := ih hlt (s.1 + 1, if s.1 = 0 then 15 * (y + 5) + (nI i - 7) + 7 else s.2) (by rw [← hx]; unfold zMvI; rw [if_pos hp])
             have h43' : ¬ s.1 = 0 := h43
             rw [if_neg h43'] at key
             have e : zup (zMvU I s) 19 (zup ((zMvU I s) 19) 4 (s.1 + 1)) = zMvU I (s.1 + 1, s.2) := by
               unfold zMvU
               rw [zup_zup, zup_eq, zup_3 (show (4 : Nat) ≠ 5 by decide)]
             exact e ▸ key)
        · refine zAloadN d_X2_findMoves_46 rfl rfl (q := 47) rfl ?_
          refine zBipush d_X2_findMoves_47 (v := 15) bc_15 (q := 49) rfl ?_
          refine zIloadN d_X2_findMoves_49 rfl rfl (q := 50) rfl ?_
          refine zIconst d_X2_findMoves_50 (v := 5) ic_5 (q := 51) rfl ?_
          refine zIadd d_X2_findMoves_51 (q := 52) rfl ?_
          refine zImul d_X2_findMoves_52 (q := 53) rfl ?_
          refine zIloadN d_X2_findMoves_53 rfl rfl (q := 54) rfl ?_
          refine zIadd d_X2_findMoves_54 (q := 55) rfl ?_
          refine zBipush d_X2_findMoves_55 (v := 7) bc_7 (q := 57) rfl ?_
          refine zIadd d_X2_findMoves_57 (q := 58) rfl ?_
          refine zPutI d_X2_findMoves_58 ff_X2_41 rfl rfl rfl sh_19 (by decide) (q := 61) rfl ?_
          refine zAloadN d_X2_findMoves_61 rfl rfl (q := 62) rfl ?_
          refine zDup d_X2_findMoves_62 rfl (q := 63) rfl ?_
          refine zGetI d_X2_findMoves_63 ff_X2_38 sh_19 (by decide) (q := 66) rfl ?_
          refine zIconst d_X2_findMoves_66 (v := 1) ic_1 (q := 67) rfl ?_
          refine zIadd d_X2_findMoves_67 (q := 68) rfl ?_
          refine zPutI d_X2_findMoves_68 ff_X2_38 rfl rfl rfl sh_19 (by decide) (q := 71) rfl ?_
          refine zIinc d_X2_findMoves_71 rfl (show nI i - 7 + Int32.ofInt 1 = nI (i + 1) - 7 by rw [show Int32.ofInt 1 = (1 : Int32) from rfl, ← nI_1]; grind) (by decide) rfl (q := 74) rfl ?_
          refine zGoto d_X2_findMoves_74 (q := 21) (by decide) ?_
          refine zSub [0, 1, 2] rfl ?_
          refine (?_ : zA g l d m_X2_findMoves _ L fs 21 _ _)
          first
          | exact ih hlt s (by rw [← hx]; unfold zMvI; rw [if_neg hp])
          | (have key := ih hlt (s.1 + 1, if s.1 = 0 then 15 * (y + 5) + (nI i - 7) + 7 else s.2) (by rw [← hx]; unfold zMvI; rw [if_pos hp])
             have h43' : s.1 = 0 := h43
             rw [if_pos h43'] at key
             have e : zup (zup (zMvU I s) 19 (zup ((zMvU I s) 19) 5 (15 * (y + 5) + (nI i - 7) + 7))) 19 (zup ((zup (zMvU I s) 19 (zup ((zMvU I s) 19) 5 (15 * (y + 5) + (nI i - 7) + 7))) 19) 4 (s.1 + 1)) = zMvU I (s.1 + 1, 15 * (y + 5) + (nI i - 7) + 7) := by
               unfold zMvU
               rw [zup_zup, zup_zup, zup_eq, zup_eq, zup_zup, zup_3 (show (4 : Nat) ≠ 5 by decide)]
             exact e ▸ key)
          | (have key := ih hlt (s.1 + 1, if s.1 = 0 then 15 * (y + 5) + (nI i - 7) + 7 else s.2) (by rw [← hx]; unfold zMvI; rw [if_pos hp])
             have h43' : ¬ s.1 = 0 := h43
             rw [if_neg h43'] at key
             have e : zup (zMvU I s) 19 (zup ((zMvU I s) 19) 4 (s.1 + 1)) = zMvU I (s.1 + 1, s.2) := by
               unfold zMvU
               rw [zup_zup, zup_eq, zup_3 (show (4 : Nat) ≠ 5 by decide)]
             exact e ▸ key)
      · have hp : ¬ F (nI i - 7) y = true := bi_0.mp h33
        refine zGoto d_X2_findMoves_36 (q := 71) (by decide) ?_
        refine zIinc d_X2_findMoves_71 rfl (show nI i - 7 + Int32.ofInt 1 = nI (i + 1) - 7 by rw [show Int32.ofInt 1 = (1 : Int32) from rfl, ← nI_1]; grind) (by decide) rfl (q := 74) rfl ?_
        refine zGoto d_X2_findMoves_74 (q := 21) (by decide) ?_
        refine zSub [0, 1, 2] rfl ?_
        refine (?_ : zA g l d m_X2_findMoves _ L fs 21 _ _)
        first
        | exact ih hlt s (by rw [← hx]; unfold zMvI; rw [if_neg hp])
        | (have key := ih hlt (s.1 + 1, if s.1 = 0 then 15 * (y + 5) + (nI i - 7) + 7 else s.2) (by rw [← hx]; unfold zMvI; rw [if_pos hp])
           have h43' : s.1 = 0 := h43
           rw [if_pos h43'] at key
           have e : zup (zup (zMvU I s) 19 (zup ((zMvU I s) 19) 5 (15 * (y + 5) + (nI i - 7) + 7))) 19 (zup ((zup (zMvU I s) 19 (zup ((zMvU I s) 19) 5 (15 * (y + 5) + (nI i - 7) + 7))) 19) 4 (s.1 + 1)) = zMvU I (s.1 + 1, 15 * (y + 5) + (nI i - 7) + 7) := by
             unfold zMvU
             rw [zup_zup, zup_zup, zup_eq, zup_eq, zup_zup, zup_3 (show (4 : Nat) ≠ 5 by decide)]
           exact e ▸ key)
        | (have key := ih hlt (s.1 + 1, if s.1 = 0 then 15 * (y + 5) + (nI i - 7) + 7 else s.2) (by rw [← hx]; unfold zMvI; rw [if_pos hp])
           have h43' : ¬ s.1 = 0 := h43
           rw [if_neg h43'] at key
           have e : zup (zMvU I s) 19 (zup ((zMvU I s) 19) 4 (s.1 + 1)) = zMvU I (s.1 + 1, s.2) := by
             unfold zMvU
             rw [zup_zup, zup_eq, zup_3 (show (4 : Nat) ≠ 5 by decide)]
           exact e ▸ key)
  have outer : ∀ j, j ≤ 11 → ∀ s (v : List (Nat × Value)), zfor (fun j s => zfor (zMvI F (nI j - 5)) 15 0 s) 11 j s = zMv F 0 → zA g l d m_X2_findMoves (zMvU I s) L fs 13 [(1, .int (nI j - 5)), (0, .ref 19)] (zV (fun w => w = zU (zMvU I (zMv F 0)) L fs)) := by
    refine zloop 11 (fun j hj ih s v hx => ?_)
    have e5 : ∀ i, i ≤ 11 → (nI i - 5).toInt = (i : Int) - 5 := fun i hi => pk_sub_toInt (b := 5) (by omega) (by omega)
    refine zIloadN d_X2_findMoves_13 rfl rfl (q := 14) rfl ?_
    refine zIconst d_X2_findMoves_14 (v := 5) ic_5 (q := 15) rfl ?_
    refine zIcmp_gt d_X2_findMoves_15 (tgt := 83) (q := 18) (by decide) rfl (fun h15 => ?_) (fun h15 => ?_)
    · have e : 11 ≤ j := by have h1 := Int32.lt_iff_toInt_lt.mp h15; rw [e5 j hj] at h1; have : (5 : Int32).toInt = 5 := rfl; omega
      rw [zfor_end e] at hx
      subst hx
      refine zVret d_X2_findMoves_83 rfl rfl ?_
      exact ⟨rfl, rfl⟩
    · have hlt : j < 11 := by have h1 : ¬ (5 : Int32).toInt < (nI j - 5).toInt := fun q => h15 (Int32.lt_iff_toInt_lt.mpr q); rw [e5 j hj] at h1; have : (5 : Int32).toInt = 5 := rfl; omega
      rw [zfor_step hlt] at hx
      refine zBipush d_X2_findMoves_18 (v := -7) bc_m7 (q := 20) rfl ?_
      refine zIstoreN d_X2_findMoves_20 rfl (by decide) rfl (q := 21) rfl ?_
      refine zSub [0, 2, 1] rfl ?_
      refine inner (nI j - 5) _ (fun v => ?_) 0 (Nat.zero_le _) s rfl
      refine zIinc d_X2_findMoves_77 rfl (show nI j - 5 + Int32.ofInt 1 = nI (j + 1) - 5 by rw [show Int32.ofInt 1 = (1 : Int32) from rfl, ← nI_1]; grind) (by decide) rfl (q := 80) rfl ?_
      refine zGoto d_X2_findMoves_80 (q := 13) (by decide) ?_
      exact ih hlt _ [] hx
  have h0 := outer 0 (Nat.zero_le _) (0, 0) [] rfl
  have e0 : zMvU I (0, 0) = zup (zup I 19 (zup (I 19) 4 0)) 19 (zup ((zup I 19 (zup (I 19) 4 0)) 19) 5 0) := by unfold zMvU; rw [zup_zup, zup_eq]
  rw [e0] at h0
  refine zSp_of (lv := [(0, .ref 19)]) k_X2_findMoves rfl (Nat.le_of_ble_eq_true rfl) ?_
  refine zAloadN d_X2_findMoves_0 rfl rfl (q := 1) rfl ?_
  refine zIconst d_X2_findMoves_1 (v := 0) ic_0 (q := 2) rfl ?_
  refine zPutI d_X2_findMoves_2 ff_X2_38 rfl rfl rfl sh_19 (by decide) (q := 5) rfl ?_
  refine zAloadN d_X2_findMoves_5 rfl rfl (q := 6) rfl ?_
  refine zIconst d_X2_findMoves_6 (v := 0) ic_0 (q := 7) rfl ?_
  refine zPutI d_X2_findMoves_7 ff_X2_41 rfl rfl rfl sh_19 (by decide) (q := 10) rfl ?_
  refine zBipush d_X2_findMoves_10 (v := -5) bc_m5 (q := 12) rfl ?_
  refine zIstoreN d_X2_findMoves_12 rfl (by decide) rfl (q := 13) rfl ?_
  refine zSub [0, 1] rfl ?_
  exact h0
end S16

