theorem d_X0_above_0 : decode (zmc m_X0_above) 0 = .ok (.iload_n 0, 1) := by decide +kernel
theorem d_X0_above_1 : decode (zmc m_X0_above) 1 = .ok (.ifCond .lt 17, 3) := by decide +kernel
theorem d_X0_above_4 : decode (zmc m_X0_above) 4 = .ok (.iload_n 0, 1) := by decide +kernel
theorem d_X0_above_5 : decode (zmc m_X0_above) 5 = .ok (.bipush 8, 2) := by decide +kernel
theorem d_X0_above_7 : decode (zmc m_X0_above) 7 = .ok (.if_icmp .ge 11, 3) := by decide +kernel
theorem d_X0_above_10 : decode (zmc m_X0_above) 10 = .ok (.getstatic 26, 3) := by decide +kernel
theorem d_X0_above_13 : decode (zmc m_X0_above) 13 = .ok (.iload_n 0, 1) := by decide +kernel
theorem d_X0_above_14 : decode (zmc m_X0_above) 14 = .ok (.iaload, 1) := by decide +kernel
theorem d_X0_above_15 : decode (zmc m_X0_above) 15 = .ok (.goto 4, 3) := by decide +kernel
theorem d_X0_above_18 : decode (zmc m_X0_above) 18 = .ok (.iconst (-1), 1) := by decide +kernel
theorem d_X0_above_19 : decode (zmc m_X0_above) 19 = .ok (.ireturn, 1) := by decide +kernel
theorem d_X0_add_0 : decode (zmc m_X0_add) 0 = .ok (.iload_n 1, 1) := by decide +kernel
theorem d_X0_add_1 : decode (zmc m_X0_add) 1 = .ok (.ifCond .lt 9, 3) := by decide +kernel
theorem d_X0_add_4 : decode (zmc m_X0_add) 4 = .ok (.iload_n 1, 1) := by decide +kernel
theorem d_X0_add_5 : decode (zmc m_X0_add) 5 = .ok (.bipush 8, 2) := by decide +kernel
theorem d_X0_add_7 : decode (zmc m_X0_add) 7 = .ok (.if_icmp .lt 5, 3) := by decide +kernel
theorem d_X0_add_10 : decode (zmc m_X0_add) 10 = .ok (.iconst (-1), 1) := by decide +kernel
theorem d_X0_add_11 : decode (zmc m_X0_add) 11 = .ok (.ireturn, 1) := by decide +kernel
theorem d_X0_add_12 : decode (zmc m_X0_add) 12 = .ok (.aload_n 0, 1) := by decide +kernel
theorem d_X0_add_13 : decode (zmc m_X0_add) 13 = .ok (.getfield 18, 3) := by decide +kernel
theorem d_X0_add_16 : decode (zmc m_X0_add) 16 = .ok (.bipush 50, 2) := by decide +kernel
theorem d_X0_add_18 : decode (zmc m_X0_add) 18 = .ok (.if_icmp .lt 6, 3) := by decide +kernel
theorem d_X0_add_21 : decode (zmc m_X0_add) 21 = .ok (.bipush (-3), 2) := by decide +kernel
theorem d_X0_add_23 : decode (zmc m_X0_add) 23 = .ok (.ireturn, 1) := by decide +kernel
theorem d_X0_add_24 : decode (zmc m_X0_add) 24 = .ok (.aload_n 0, 1) := by decide +kernel
theorem d_X0_add_25 : decode (zmc m_X0_add) 25 = .ok (.getfield 11, 3) := by decide +kernel
theorem d_X0_add_28 : decode (zmc m_X0_add) 28 = .ok (.aload_n 0, 1) := by decide +kernel
theorem d_X0_add_29 : decode (zmc m_X0_add) 29 = .ok (.getfield 18, 3) := by decide +kernel
theorem d_X0_add_32 : decode (zmc m_X0_add) 32 = .ok (.iload_n 1, 1) := by decide +kernel
theorem d_X0_add_33 : decode (zmc m_X0_add) 33 = .ok (.iastore, 1) := by decide +kernel
theorem d_X0_add_34 : decode (zmc m_X0_add) 34 = .ok (.aload_n 0, 1) := by decide +kernel
theorem d_X0_add_35 : decode (zmc m_X0_add) 35 = .ok (.dup, 1) := by decide +kernel
theorem d_X0_add_36 : decode (zmc m_X0_add) 36 = .ok (.getfield 18, 3) := by decide +kernel
theorem d_X0_add_39 : decode (zmc m_X0_add) 39 = .ok (.iconst 1, 1) := by decide +kernel
theorem d_X0_add_40 : decode (zmc m_X0_add) 40 = .ok (.iadd, 1) := by decide +kernel
theorem d_X0_add_41 : decode (zmc m_X0_add) 41 = .ok (.putfield 18, 3) := by decide +kernel
theorem d_X0_add_44 : decode (zmc m_X0_add) 44 = .ok (.aload_n 0, 1) := by decide +kernel
theorem d_X0_add_45 : decode (zmc m_X0_add) 45 = .ok (.getfield 18, 3) := by decide +kernel
theorem d_X0_add_48 : decode (zmc m_X0_add) 48 = .ok (.iconst 1, 1) := by decide +kernel
theorem d_X0_add_49 : decode (zmc m_X0_add) 49 = .ok (.isub, 1) := by decide +kernel
theorem d_X0_add_50 : decode (zmc m_X0_add) 50 = .ok (.ireturn, 1) := by decide +kernel
theorem d_X0_begin_0 : decode (zmc m_X0_begin) 0 = .ok (.aload_n 0, 1) := by decide +kernel
theorem d_X0_begin_1 : decode (zmc m_X0_begin) 1 = .ok (.getfield 29, 3) := by decide +kernel
theorem d_X0_begin_4 : decode (zmc m_X0_begin) 4 = .ok (.bipush 24, 2) := by decide +kernel
theorem d_X0_begin_6 : decode (zmc m_X0_begin) 6 = .ok (.if_icmp .ge 13, 3) := by decide +kernel
theorem d_X0_begin_9 : decode (zmc m_X0_begin) 9 = .ok (.aload_n 0, 1) := by decide +kernel
theorem d_X0_begin_10 : decode (zmc m_X0_begin) 10 = .ok (.getfield 15, 3) := by decide +kernel
theorem d_X0_begin_13 : decode (zmc m_X0_begin) 13 = .ok (.aload_n 0, 1) := by decide +kernel
theorem d_X0_begin_14 : decode (zmc m_X0_begin) 14 = .ok (.getfield 29, 3) := by decide +kernel
theorem d_X0_begin_17 : decode (zmc m_X0_begin) 17 = .ok (.iload_n 1, 1) := by decide +kernel
theorem d_X0_begin_18 : decode (zmc m_X0_begin) 18 = .ok (.iastore, 1) := by decide +kernel
theorem d_X0_begin_19 : decode (zmc m_X0_begin) 19 = .ok (.aload_n 0, 1) := by decide +kernel
theorem d_X0_begin_20 : decode (zmc m_X0_begin) 20 = .ok (.dup, 1) := by decide +kernel
theorem d_X0_begin_21 : decode (zmc m_X0_begin) 21 = .ok (.getfield 29, 3) := by decide +kernel
theorem d_X0_begin_24 : decode (zmc m_X0_begin) 24 = .ok (.iconst 1, 1) := by decide +kernel
theorem d_X0_begin_25 : decode (zmc m_X0_begin) 25 = .ok (.iadd, 1) := by decide +kernel
theorem d_X0_begin_26 : decode (zmc m_X0_begin) 26 = .ok (.putfield 29, 3) := by decide +kernel
theorem d_X0_begin_29 : decode (zmc m_X0_begin) 29 = .ok (.return_, 1) := by decide +kernel
theorem d_X0_isUnder_0 : decode (zmc m_X0_isUnder) 0 = .ok (.iload_n 0, 1) := by decide +kernel
theorem d_X0_isUnder_1 : decode (zmc m_X0_isUnder) 1 = .ok (.istore_n 2, 1) := by decide +kernel
theorem d_X0_isUnder_2 : decode (zmc m_X0_isUnder) 2 = .ok (.iconst 0, 1) := by decide +kernel
theorem d_X0_isUnder_3 : decode (zmc m_X0_isUnder) 3 = .ok (.istore_n 3, 1) := by decide +kernel
theorem d_X0_isUnder_4 : decode (zmc m_X0_isUnder) 4 = .ok (.iload_n 3, 1) := by decide +kernel
theorem d_X0_isUnder_5 : decode (zmc m_X0_isUnder) 5 = .ok (.bipush 8, 2) := by decide +kernel
theorem d_X0_isUnder_7 : decode (zmc m_X0_isUnder) 7 = .ok (.if_icmp .ge 19, 3) := by decide +kernel
theorem d_X0_isUnder_10 : decode (zmc m_X0_isUnder) 10 = .ok (.iload_n 2, 1) := by decide +kernel
theorem d_X0_isUnder_11 : decode (zmc m_X0_isUnder) 11 = .ok (.iload_n 1, 1) := by decide +kernel
theorem d_X0_isUnder_12 : decode (zmc m_X0_isUnder) 12 = .ok (.if_icmp .eq 14, 3) := by decide +kernel
theorem d_X0_isUnder_15 : decode (zmc m_X0_isUnder) 15 = .ok (.iload_n 2, 1) := by decide +kernel
theorem d_X0_isUnder_16 : decode (zmc m_X0_isUnder) 16 = .ok (.invokestatic 22, 3) := by decide +kernel
theorem d_X0_isUnder_19 : decode (zmc m_X0_isUnder) 19 = .ok (.istore_n 2, 1) := by decide +kernel
theorem d_X0_isUnder_20 : decode (zmc m_X0_isUnder) 20 = .ok (.iinc 3 1, 3) := by decide +kernel
theorem d_X0_isUnder_23 : decode (zmc m_X0_isUnder) 23 = .ok (.goto (-19), 3) := by decide +kernel
theorem d_X0_isUnder_26 : decode (zmc m_X0_isUnder) 26 = .ok (.iload_n 2, 1) := by decide +kernel
theorem d_X0_isUnder_27 : decode (zmc m_X0_isUnder) 27 = .ok (.iload_n 1, 1) := by decide +kernel
theorem d_X0_isUnder_28 : decode (zmc m_X0_isUnder) 28 = .ok (.if_icmp .ne 7, 3) := by decide +kernel
theorem d_X0_isUnder_31 : decode (zmc m_X0_isUnder) 31 = .ok (.iconst 1, 1) := by decide +kernel
theorem d_X0_isUnder_32 : decode (zmc m_X0_isUnder) 32 = .ok (.goto 4, 3) := by decide +kernel
theorem d_X0_isUnder_35 : decode (zmc m_X0_isUnder) 35 = .ok (.iconst 0, 1) := by decide +kernel
theorem d_X0_isUnder_36 : decode (zmc m_X0_isUnder) 36 = .ok (.ireturn, 1) := by decide +kernel
theorem d_X0_kindOf_0 : decode (zmc m_X0_kindOf) 0 = .ok (.iload_n 1, 1) := by decide +kernel
theorem d_X0_kindOf_1 : decode (zmc m_X0_kindOf) 1 = .ok (.ifCond .lt 20, 3) := by decide +kernel
theorem d_X0_kindOf_4 : decode (zmc m_X0_kindOf) 4 = .ok (.iload_n 1, 1) := by decide +kernel
theorem d_X0_kindOf_5 : decode (zmc m_X0_kindOf) 5 = .ok (.aload_n 0, 1) := by decide +kernel
theorem d_X0_kindOf_6 : decode (zmc m_X0_kindOf) 6 = .ok (.getfield 18, 3) := by decide +kernel
theorem d_X0_kindOf_9 : decode (zmc m_X0_kindOf) 9 = .ok (.if_icmp .ge 12, 3) := by decide +kernel
theorem d_X0_kindOf_12 : decode (zmc m_X0_kindOf) 12 = .ok (.aload_n 0, 1) := by decide +kernel
theorem d_X0_kindOf_13 : decode (zmc m_X0_kindOf) 13 = .ok (.getfield 11, 3) := by decide +kernel
theorem d_X0_kindOf_16 : decode (zmc m_X0_kindOf) 16 = .ok (.iload_n 1, 1) := by decide +kernel
theorem d_X0_kindOf_17 : decode (zmc m_X0_kindOf) 17 = .ok (.iaload, 1) := by decide +kernel
theorem d_X0_kindOf_18 : decode (zmc m_X0_kindOf) 18 = .ok (.goto 4, 3) := by decide +kernel
theorem d_X0_kindOf_21 : decode (zmc m_X0_kindOf) 21 = .ok (.iconst (-1), 1) := by decide +kernel
theorem d_X0_kindOf_22 : decode (zmc m_X0_kindOf) 22 = .ok (.ireturn, 1) := by decide +kernel
theorem d_X0_ownOf_0 : decode (zmc m_X0_ownOf) 0 = .ok (.iload_n 0, 1) := by decide +kernel
theorem d_X0_ownOf_1 : decode (zmc m_X0_ownOf) 1 = .ok (.ifCond .lt 22, 3) := by decide +kernel
theorem d_X0_ownOf_4 : decode (zmc m_X0_ownOf) 4 = .ok (.iload_n 0, 1) := by decide +kernel
theorem d_X0_ownOf_5 : decode (zmc m_X0_ownOf) 5 = .ok (.bipush 8, 2) := by decide +kernel
theorem d_X0_ownOf_7 : decode (zmc m_X0_ownOf) 7 = .ok (.if_icmp .ge 16, 3) := by decide +kernel
theorem d_X0_ownOf_10 : decode (zmc m_X0_ownOf) 10 = .ok (.iload_n 1, 1) := by decide +kernel
theorem d_X0_ownOf_11 : decode (zmc m_X0_ownOf) 11 = .ok (.ifCond .lt 12, 3) := by decide +kernel
theorem d_X0_ownOf_14 : decode (zmc m_X0_ownOf) 14 = .ok (.iload_n 1, 1) := by decide +kernel
theorem d_X0_ownOf_15 : decode (zmc m_X0_ownOf) 15 = .ok (.iconst 4, 1) := by decide +kernel
theorem d_X0_ownOf_16 : decode (zmc m_X0_ownOf) 16 = .ok (.if_icmp .ge 7, 3) := by decide +kernel
theorem d_X0_ownOf_19 : decode (zmc m_X0_ownOf) 19 = .ok (.iconst 1, 1) := by decide +kernel
theorem d_X0_ownOf_20 : decode (zmc m_X0_ownOf) 20 = .ok (.goto 4, 3) := by decide +kernel
theorem d_X0_ownOf_23 : decode (zmc m_X0_ownOf) 23 = .ok (.iconst 0, 1) := by decide +kernel
theorem d_X0_ownOf_24 : decode (zmc m_X0_ownOf) 24 = .ok (.istore_n 2, 1) := by decide +kernel
theorem d_X0_ownOf_25 : decode (zmc m_X0_ownOf) 25 = .ok (.iload_n 2, 1) := by decide +kernel
theorem d_X0_ownOf_26 : decode (zmc m_X0_ownOf) 26 = .ok (.ifCond .eq 15, 3) := by decide +kernel
theorem d_X0_ownOf_29 : decode (zmc m_X0_ownOf) 29 = .ok (.getstatic 59, 3) := by decide +kernel
theorem d_X0_ownOf_32 : decode (zmc m_X0_ownOf) 32 = .ok (.iconst 4, 1) := by decide +kernel
theorem d_X0_ownOf_33 : decode (zmc m_X0_ownOf) 33 = .ok (.iload_n 0, 1) := by decide +kernel
theorem d_X0_ownOf_34 : decode (zmc m_X0_ownOf) 34 = .ok (.imul, 1) := by decide +kernel
theorem d_X0_ownOf_35 : decode (zmc m_X0_ownOf) 35 = .ok (.iload_n 1, 1) := by decide +kernel
theorem d_X0_ownOf_36 : decode (zmc m_X0_ownOf) 36 = .ok (.iadd, 1) := by decide +kernel
theorem d_X0_ownOf_37 : decode (zmc m_X0_ownOf) 37 = .ok (.iaload, 1) := by decide +kernel
theorem d_X0_ownOf_38 : decode (zmc m_X0_ownOf) 38 = .ok (.goto 4, 3) := by decide +kernel
theorem d_X0_ownOf_41 : decode (zmc m_X0_ownOf) 41 = .ok (.iconst 0, 1) := by decide +kernel
theorem d_X0_ownOf_42 : decode (zmc m_X0_ownOf) 42 = .ok (.ireturn, 1) := by decide +kernel
theorem d_X0_traced_0 : decode (zmc m_X0_traced) 0 = .ok (.aload_n 0, 1) := by decide +kernel
theorem d_X0_traced_1 : decode (zmc m_X0_traced) 1 = .ok (.getfield 29, 3) := by decide +kernel
theorem d_X0_traced_4 : decode (zmc m_X0_traced) 4 = .ok (.bipush 24, 2) := by decide +kernel
theorem d_X0_traced_6 : decode (zmc m_X0_traced) 6 = .ok (.invokestatic 32, 3) := by decide +kernel
theorem d_X0_traced_9 : decode (zmc m_X0_traced) 9 = .ok (.ireturn, 1) := by decide +kernel
/-! BODIES AND THEIR ACTS -/
def zAbove (k : Int32) : Int32 := if 0 ≤ k ∧ k < 8 then zstv 2 k.toNatClampNeg else -1
def zOwn (k a : Int32) : Int32 := if (0 ≤ k ∧ k < 8) ∧ (0 ≤ a ∧ a < 4) then zstv 3 (4 * k + a).toNatClampNeg else 0
def zKo (I : Nat → Nat → Int32) (b : Int32) : Int32 := if 0 ≤ b ∧ b < I 38 2 then I 39 b.toNatClampNeg else -1
def zRs : Nat → Int32 → Int32 → Int32
  | 0, k, _ => k
  | m + 1, k, a => if zOwn k a = 0 then zRs m (zAbove k) a else k
def zUl : Nat → Int32 → Int32 → Int32
  | 0, k, _ => k
  | m + 1, k, o => if k = o then k else zUl m (zAbove k) o
def zUnd (k o : Int32) : Prop := zUl 8 k o = o
def zTrF (f : Nat → Int32) : Nat → List Int32 → Nat → Int32
  | _, [] => f
  | r, o :: t => zTrF (if r < 24 then zup f r o else f) (r + 1) t
/-- the trace grows by t -/
def zTrI (I : Nat → Nat → Int32) (r : Nat) (t : List Int32) : Nat → Nat → Int32 := zup (zup I 40 (zTrF (I 40) r t)) 38 (zup (I 38) 3 (nI (r + t.length)))
theorem zTrF_app (t u : List Int32) : ∀ (f : Nat → Int32) (r : Nat), zTrF f r (t ++ u) = zTrF (zTrF f r t) (r + t.length) u := by
  induction t with
  | nil => intro f r; rfl
  | cons o t ih =>
    intro f r
    show zTrF (if r < 24 then zup f r o else f) (r + 1) (t ++ u) = zTrF (zTrF (if r < 24 then zup f r o else f) (r + 1) t) (r + (t.length + 1)) u
    rw [ih, Nat.add_assoc, Nat.add_comm 1]
theorem zTrI_app (I : Nat → Nat → Int32) (r : Nat) (t u : List Int32) : zTrI (zTrI I r t) (r + t.length) u = zTrI I r (t ++ u) := by
  unfold zTrI
  rw [zTrF_app, List.length_append, ← Nat.add_assoc]
  rw [zup_eq, zup_zup, zup_ne (f := zup I 40 _) (show (40 : Nat) ≠ 38 by decide), zup_eq]
  rw [zup_3 (show (40 : Nat) ≠ 38 by decide), zup_zup]
theorem zTrI_ko {I : Nat → Nat → Int32} {r : Nat} {t : List Int32} {b : Int32} : zKo (zTrI I r t) b = zKo I b := rfl
def zDs (o : Nat) (n x : Int32) (up : Int32 → Option (Int32 × List Int32)) (vi : Int32 → Int32 → Option (Int32 × List Int32)) : Option (Int32 × List Int32) := match o with
  | 1 => some (x + n, [1])
  | 2 => (vi 1 x).bind fun p => (vi 2 1).bind fun q => some (p.1 - q.1, 2 :: (p.2 ++ q.2))
  | 10 => (vi 0 x).bind fun p => some (p.1 * 2, 10 :: p.2)
  | 11 => some (x ^^^ n, [11])
  | 20 => (up x).bind fun p => some (p.1 + 3, 20 :: p.2)
  | 30 => (up x).bind fun p => some (-p.1, 30 :: p.2)
  | 40 => (up x).bind fun p => some (p.1 * 3, 40 :: p.2)
  | 41 => (up (x + 1)).bind fun p => some (p.1, 41 :: p.2)
  | 50 => (up x).bind fun p => some (p.1 ^^^ 5, 50 :: p.2)
  | 60 => (up x).bind fun p => (vi 0 2).bind fun q => some (p.1 - q.1, 60 :: (p.2 ++ q.2))
  | 61 => (up x).bind fun p => some (p.1 + 1, 61 :: p.2)
  | 70 => (up x).bind fun p => some (p.1 * 2, 70 :: p.2)
  | 80 => (up x).bind fun p => (vi 2 2).bind fun q => some (p.1 + q.1, 80 :: (p.2 ++ q.2))
  | 81 => (up x).bind fun p => some (p.1 - 1, 81 :: p.2)
  | _ => none
/-- an act as a kind does it, of a body whose kind is K: the answer and the bodies that ran -/
def zDo : Nat → Int32 → Int32 → Int32 → Int32 → Int32 → Option (Int32 × List Int32)
  | 0, _, _, _, _, _ => none
  | f + 1, K, k, a, n, x => zDs (zOwn (zRs 8 k a) a).toNatClampNeg n x (fun y => zDo f K (zAbove (zRs 8 k a)) a n y) (fun b y => zDo f K K b n y)
theorem zDo_some {f : Nat} {K k a n x v : Int32} {t : List Int32} (h : zDo (f + 1) K k a n x = some (v, t)) : zOwn (zRs 8 k a) a = 1 ∨ zOwn (zRs 8 k a) a = 2 ∨ zOwn (zRs 8 k a) a = 10 ∨ zOwn (zRs 8 k a) a = 11 ∨ zOwn (zRs 8 k a) a = 20 ∨ zOwn (zRs 8 k a) a = 30 ∨ zOwn (zRs 8 k a) a = 40 ∨ zOwn (zRs 8 k a) a = 41 ∨ zOwn (zRs 8 k a) a = 50 ∨ zOwn (zRs 8 k a) a = 60 ∨ zOwn (zRs 8 k a) a = 61 ∨ zOwn (zRs 8 k a) a = 70 ∨ zOwn (zRs 8 k a) a = 80 ∨ zOwn (zRs 8 k a) a = 81 := by
  have key : ∀ o : Int32, zDs o.toNatClampNeg n x (fun y => zDo f K (zAbove (zRs 8 k a)) a n y) (fun b y => zDo f K K b n y) = some (v, t) → (o = 1 ∨ o = 2 ∨ o = 10 ∨ o = 11 ∨ o = 20 ∨ o = 30 ∨ o = 40 ∨ o = 41 ∨ o = 50 ∨ o = 60 ∨ o = 61 ∨ o = 70 ∨ o = 80 ∨ o = 81) := by
    intro o ho
    have hc : ∀ (j : Nat) (w : Int32), w = nI j → j < 100 → 0 < j → o.toNatClampNeg = j → o = w := by
      intro j w hw hj h0 e
      by_cases q : o < 0
      · have hz : o.toInt < 0 := by simpa using Int32.lt_iff_toInt_lt.mp q
        have h2 : (o.toInt.toNat : Nat) = j := e
        omega
      · obtain ⟨i, hi, rfl⟩ := nI_of q
        rw [zcl_n hi] at e
        rw [hw, e]
    unfold zDs at ho
    split at ho
    next e => exact Or.inl (hc _ _ rfl (by decide) (by decide) e)
    next e => exact Or.inr (Or.inl (hc _ _ rfl (by decide) (by decide) e))
    next e => exact Or.inr (Or.inr (Or.inl (hc _ _ rfl (by decide) (by decide) e)))
    next e => exact Or.inr (Or.inr (Or.inr (Or.inl (hc _ _ rfl (by decide) (by decide) e))))
    next e => exact Or.inr (Or.inr (Or.inr (Or.inr (Or.inl (hc _ _ rfl (by decide) (by decide) e)))))
    next e => exact Or.inr (Or.inr (Or.inr (Or.inr (Or.inr (Or.inl (hc _ _ rfl (by decide) (by decide) e))))))
    next e => exact Or.inr (Or.inr (Or.inr (Or.inr (Or.inr (Or.inr (Or.inl (hc _ _ rfl (by decide) (by decide) e)))))))
    next e => exact Or.inr (Or.inr (Or.inr (Or.inr (Or.inr (Or.inr (Or.inr (Or.inl (hc _ _ rfl (by decide) (by decide) e))))))))
    next e => exact Or.inr (Or.inr (Or.inr (Or.inr (Or.inr (Or.inr (Or.inr (Or.inr (Or.inl (hc _ _ rfl (by decide) (by decide) e)))))))))
    next e => exact Or.inr (Or.inr (Or.inr (Or.inr (Or.inr (Or.inr (Or.inr (Or.inr (Or.inr (Or.inl (hc _ _ rfl (by decide) (by decide) e))))))))))
    next e => exact Or.inr (Or.inr (Or.inr (Or.inr (Or.inr (Or.inr (Or.inr (Or.inr (Or.inr (Or.inr (Or.inl (hc _ _ rfl (by decide) (by decide) e)))))))))))
    next e => exact Or.inr (Or.inr (Or.inr (Or.inr (Or.inr (Or.inr (Or.inr (Or.inr (Or.inr (Or.inr (Or.inr (Or.inl (hc _ _ rfl (by decide) (by decide) e))))))))))))
    next e => exact Or.inr (Or.inr (Or.inr (Or.inr (Or.inr (Or.inr (Or.inr (Or.inr (Or.inr (Or.inr (Or.inr (Or.inr (Or.inl (hc _ _ rfl (by decide) (by decide) e)))))))))))))
    next e => exact Or.inr (Or.inr (Or.inr (Or.inr (Or.inr (Or.inr (Or.inr (Or.inr (Or.inr (Or.inr (Or.inr (Or.inr (Or.inr (hc _ _ rfl (by decide) (by decide) e)))))))))))))
    next => cases ho
  exact key _ h
section S13
variable {g : zG} {l : Launch} {d : Nat} {I : Nat → Nat → Int32} {L : Nat → Nat → Int64} {fs : Nat × Nat × Option Nat}
theorem sp_X0_add (hd : 1 ≤ d) {nb : Nat} (hb : I 38 2 = nI nb) (h50 : nb ≤ 50) {k : Int32} : zSp g l d 100 m_X0_add [.ref 38, .int k] (zU I L fs) (zX (fun x w => (¬ (0 ≤ k ∧ k < 8) ∧ x = -1 ∧ w = zU I L fs) ∨ ((0 ≤ k ∧ k < 8) ∧ nb = 50 ∧ x = -3 ∧ w = zU I L fs) ∨ ((0 ≤ k ∧ k < 8) ∧ nb < 50 ∧ x = nI nb ∧ w = zU (zup (zup I 39 (zup (I 39) nb k)) 38 (zup (I 38) 2 (nI (nb + 1)))) L fs))) := by
  refine zSp_of (lv := [(0, .ref 38), (1, .int k)]) k_X0_add rfl (Nat.le_of_ble_eq_true rfl) ?_
  refine zIloadN d_X0_add_0 rfl rfl (q := 1) rfl ?_
  refine zIf_lt d_X0_add_1 (tgt := 10) (q := 4) (by decide) rfl (fun h1 => ?_) (fun h1 => ?_)
  · refine zIconst d_X0_add_10 (v := -1) ic_m1 (q := 11) rfl ?_
    refine zIret d_X0_add_11 rfl rfl rfl ?_
    exact ⟨_, rfl, Or.inl ⟨by grind, rfl, rfl⟩⟩
  · refine zIloadN d_X0_add_4 rfl rfl (q := 5) rfl ?_
    refine zBipush d_X0_add_5 (v := 8) bc_8 (q := 7) rfl ?_
    refine zIcmp_lt d_X0_add_7 (tgt := 12) (q := 10) (by decide) rfl (fun h7 => ?_) (fun h7 => ?_)
    · refine zAloadN d_X0_add_12 rfl rfl (q := 13) rfl ?_
      refine zGetI d_X0_add_13 ff_X0_18 sh_38 (by decide) (q := 16) rfl ?_
      refine zBipush d_X0_add_16 (v := 50) bc_50 (q := 18) rfl ?_
      refine zIcmp_lt d_X0_add_18 (tgt := 24) (q := 21) (by decide) rfl (fun h18 => ?_) (fun h18 => ?_)
      · have hlt : nb < 50 := by rw [hb] at h18; exact nlt (b := 50) h18
        refine zAloadN d_X0_add_24 rfl rfl (q := 25) rfl ?_
        refine zGetR d_X0_add_25 ff_X0_11 sh_38 (by decide) r_38_0 (q := 28) rfl ?_
        refine zAloadN d_X0_add_28 rfl rfl (q := 29) rfl ?_
        refine zGetI d_X0_add_29 ff_X0_18 sh_38 (by decide) (q := 32) rfl ?_
        refine zIloadN d_X0_add_32 rfl rfl (q := 33) rfl ?_
        refine zIast d_X0_add_33 sh_39 (by decide) hb (by omega) (q := 34) rfl ?_
        refine zAloadN d_X0_add_34 rfl rfl (q := 35) rfl ?_
        refine zDup d_X0_add_35 rfl (q := 36) rfl ?_
        refine zGetI d_X0_add_36 ff_X0_18 sh_38 (by decide) (q := 39) rfl ?_
        refine zIconst d_X0_add_39 (v := 1) ic_1 (q := 40) rfl ?_
        refine zIadd d_X0_add_40 (q := 41) rfl ?_
        refine zPutI d_X0_add_41 ff_X0_18 rfl rfl rfl sh_38 (by decide) (q := 44) rfl ?_
        rw [show (zup I 39 (zup (I 39) nb k)) 38 2 = nI nb from hb, nI_1]
        refine zAloadN d_X0_add_44 rfl rfl (q := 45) rfl ?_
        refine zGetI d_X0_add_45 ff_X0_18 sh_38 (by decide) (q := 48) rfl ?_
        refine zIconst d_X0_add_48 (v := 1) ic_1 (q := 49) rfl ?_
        refine zIsub d_X0_add_49 (q := 50) rfl ?_
        refine zIret d_X0_add_50 rfl rfl rfl ?_
        refine ⟨_, rfl, Or.inr (Or.inr ⟨by grind, hlt, ?_, rfl⟩)⟩
        exact nI_pred nb
      · refine zBipush d_X0_add_21 (v := -3) bc_m3 (q := 23) rfl ?_
        refine zIret d_X0_add_23 rfl rfl rfl ?_
        exact ⟨_, rfl, Or.inr (Or.inl ⟨by grind, by rw [hb] at h18; have := nnlt (b := 50) h18; omega, rfl, rfl⟩)⟩
    · refine zIconst d_X0_add_10 (v := -1) ic_m1 (q := 11) rfl ?_
      refine zIret d_X0_add_11 rfl rfl rfl ?_
      exact ⟨_, rfl, Or.inl ⟨by grind, rfl, rfl⟩⟩
theorem sp_X0_kindOf (hd : 1 ≤ d) {nb : Nat} (hb : I 38 2 = nI nb) (h50 : nb ≤ 50) {b : Int32} : zPure g l d m_X0_kindOf [.ref 38, .int b] I L fs (.int (zKo I b)) := by
  refine zSp_of (lv := [(0, .ref 38), (1, .int b)]) k_X0_kindOf rfl (Nat.le_of_ble_eq_true rfl) ?_
  refine zIloadN d_X0_kindOf_0 rfl rfl (q := 1) rfl ?_
  refine zIf_lt d_X0_kindOf_1 (tgt := 21) (q := 4) (by decide) rfl (fun h1 => ?_) (fun h1 => ?_)
  · refine zIconst d_X0_kindOf_21 (v := -1) ic_m1 (q := 22) rfl ?_
    refine zIret d_X0_kindOf_22 rfl rfl rfl ?_
    exact zPi (by unfold zKo; first | (rw [if_pos ⟨zn_ge (by omega), by rw [hb]; exact (nI_ltI (by omega) (by omega)).mpr hj⟩, zcl_n (by omega)]; done) | (rw [if_neg (fun q => by grind)]))
  · refine zIloadN d_X0_kindOf_4 rfl rfl (q := 5) rfl ?_
    refine zAloadN d_X0_kindOf_5 rfl rfl (q := 6) rfl ?_
    refine zGetI d_X0_kindOf_6 ff_X0_18 sh_38 (by decide) (q := 9) rfl ?_
    refine zIcmp_ge d_X0_kindOf_9 (tgt := 21) (q := 12) (by decide) rfl (fun h9 => ?_) (fun h9 => ?_)
    · refine zIconst d_X0_kindOf_21 (v := -1) ic_m1 (q := 22) rfl ?_
      refine zIret d_X0_kindOf_22 rfl rfl rfl ?_
      exact zPi (by unfold zKo; first | (rw [if_pos ⟨zn_ge (by omega), by rw [hb]; exact (nI_ltI (by omega) (by omega)).mpr hj⟩, zcl_n (by omega)]; done) | (rw [if_neg (fun q => by grind)]))
    · obtain ⟨j, hj, rfl⟩ := zn1 (x := b) (n := nb) (by omega) (by grind) (by rw [hb] at h9; grind)
      refine zAloadN d_X0_kindOf_12 rfl rfl (q := 13) rfl ?_
      refine zGetR d_X0_kindOf_13 ff_X0_11 sh_38 (by decide) r_38_0 (q := 16) rfl ?_
      refine zIloadN d_X0_kindOf_16 rfl rfl (q := 17) rfl ?_
      refine zIald d_X0_kindOf_17 sh_39 (by decide) rfl (by omega) (q := 18) rfl ?_
      refine zGoto d_X0_kindOf_18 (q := 22) (by decide) ?_
      refine zIret d_X0_kindOf_22 rfl rfl rfl ?_
      exact zPi (by unfold zKo; first | (rw [if_pos ⟨zn_ge (by omega), by rw [hb]; exact (nI_ltI (by omega) (by omega)).mpr hj⟩, zcl_n (by omega)]; done) | (rw [if_neg (fun q => by grind)]))
theorem sp_X0_above (hd : 1 ≤ d) {k : Int32} : zPure g l d m_X0_above [.int k] I L fs (.int (zAbove k)) := by
  refine zSp_of (lv := [(0, .int k)]) k_X0_above rfl (Nat.le_of_ble_eq_true rfl) ?_
  refine zIloadN d_X0_above_0 rfl rfl (q := 1) rfl ?_
  refine zIf_lt d_X0_above_1 (tgt := 18) (q := 4) (by decide) rfl (fun h1 => ?_) (fun h1 => ?_)
  · refine zIconst d_X0_above_18 (v := -1) ic_m1 (q := 19) rfl ?_
    refine zIret d_X0_above_19 rfl rfl rfl ?_
    exact zPi (by unfold zAbove; first | (rw [if_pos ⟨zn_ge (by omega), (nI_ltI (b := 8) (by omega) (by omega)).mpr hj⟩, zcl_n (by omega)]; done) | (rw [if_neg (fun q => by grind)]))
  · refine zIloadN d_X0_above_4 rfl rfl (q := 5) rfl ?_
    refine zBipush d_X0_above_5 (v := 8) bc_8 (q := 7) rfl ?_
    refine zIcmp_ge d_X0_above_7 (tgt := 18) (q := 10) (by decide) rfl (fun h7 => ?_) (fun h7 => ?_)
    · refine zIconst d_X0_above_18 (v := -1) ic_m1 (q := 19) rfl ?_
      refine zIret d_X0_above_19 rfl rfl rfl ?_
      exact zPi (by unfold zAbove; first | (rw [if_pos ⟨zn_ge (by omega), (nI_ltI (b := 8) (by omega) (by omega)).mpr hj⟩, zcl_n (by omega)]; done) | (rw [if_neg (fun q => by grind)]))
    · obtain ⟨j, hj, rfl⟩ := zn1 (x := k) (n := 8) (by omega) (by grind) (by have : nI 8 = 8 := rfl; grind)
      refine zGetS2 d_X0_above_10 fl_X0_26 (q := 13) rfl ?_
      refine zIloadN d_X0_above_13 rfl rfl (q := 14) rfl ?_
      refine zSi2 d_X0_above_14 rfl hj (q := 15) rfl ?_
      refine zGoto d_X0_above_15 (q := 19) (by decide) ?_
      refine zIret d_X0_above_19 rfl rfl rfl ?_
      exact zPi (by unfold zAbove; first | (rw [if_pos ⟨zn_ge (by omega), (nI_ltI (b := 8) (by omega) (by omega)).mpr hj⟩, zcl_n (by omega)]; done) | (rw [if_neg (fun q => by grind)]))
theorem sp_X0_ownOf (hd : 1 ≤ d) {k a : Int32} : zPure g l d m_X0_ownOf [.int k, .int a] I L fs (.int (zOwn k a)) := by
  refine zSp_of (lv := [(0, .int k), (1, .int a)]) k_X0_ownOf rfl (Nat.le_of_ble_eq_true rfl) ?_
  refine zIloadN d_X0_ownOf_0 rfl rfl (q := 1) rfl ?_
  refine zIf_lt d_X0_ownOf_1 (tgt := 23) (q := 4) (by decide) rfl (fun h1 => ?_) (fun h1 => ?_)
  · refine zIconst d_X0_ownOf_23 (v := 0) ic_0 (q := 24) rfl ?_
    refine zIstoreN d_X0_ownOf_24 rfl (by decide) rfl (q := 25) rfl ?_
    refine zIloadN d_X0_ownOf_25 rfl rfl (q := 26) rfl ?_
    refine zIf_eq d_X0_ownOf_26 (tgt := 41) (q := 29) (by decide) rfl (fun _ => ?_) (fun h => absurd h (by decide))
    refine zIconst d_X0_ownOf_41 (v := 0) ic_0 (q := 42) rfl ?_
    refine zIret d_X0_ownOf_42 rfl rfl rfl ?_
    exact zPi (by unfold zOwn; first | (rw [if_pos hall, hx, zcl_n (by omega)]; done) | (rw [if_neg (fun q => by grind)]))
  · refine zIloadN d_X0_ownOf_4 rfl rfl (q := 5) rfl ?_
    refine zBipush d_X0_ownOf_5 (v := 8) bc_8 (q := 7) rfl ?_
    refine zIcmp_ge d_X0_ownOf_7 (tgt := 23) (q := 10) (by decide) rfl (fun h7 => ?_) (fun h7 => ?_)
    · refine zIconst d_X0_ownOf_23 (v := 0) ic_0 (q := 24) rfl ?_
      refine zIstoreN d_X0_ownOf_24 rfl (by decide) rfl (q := 25) rfl ?_
      refine zIloadN d_X0_ownOf_25 rfl rfl (q := 26) rfl ?_
      refine zIf_eq d_X0_ownOf_26 (tgt := 41) (q := 29) (by decide) rfl (fun _ => ?_) (fun h => absurd h (by decide))
      refine zIconst d_X0_ownOf_41 (v := 0) ic_0 (q := 42) rfl ?_
      refine zIret d_X0_ownOf_42 rfl rfl rfl ?_
      exact zPi (by unfold zOwn; first | (rw [if_pos hall, hx, zcl_n (by omega)]; done) | (rw [if_neg (fun q => by grind)]))
    · refine zIloadN d_X0_ownOf_10 rfl rfl (q := 11) rfl ?_
      refine zIf_lt d_X0_ownOf_11 (tgt := 23) (q := 14) (by decide) rfl (fun h11 => ?_) (fun h11 => ?_)
      · refine zIconst d_X0_ownOf_23 (v := 0) ic_0 (q := 24) rfl ?_
        refine zIstoreN d_X0_ownOf_24 rfl (by decide) rfl (q := 25) rfl ?_
        refine zIloadN d_X0_ownOf_25 rfl rfl (q := 26) rfl ?_
        refine zIf_eq d_X0_ownOf_26 (tgt := 41) (q := 29) (by decide) rfl (fun _ => ?_) (fun h => absurd h (by decide))
        refine zIconst d_X0_ownOf_41 (v := 0) ic_0 (q := 42) rfl ?_
        refine zIret d_X0_ownOf_42 rfl rfl rfl ?_
        exact zPi (by unfold zOwn; first | (rw [if_pos hall, hx, zcl_n (by omega)]; done) | (rw [if_neg (fun q => by grind)]))
      · refine zIloadN d_X0_ownOf_14 rfl rfl (q := 15) rfl ?_
        refine zIconst d_X0_ownOf_15 (v := 4) ic_4 (q := 16) rfl ?_
        refine zIcmp_ge d_X0_ownOf_16 (tgt := 23) (q := 19) (by decide) rfl (fun h16 => ?_) (fun h16 => ?_)
        · refine zIconst d_X0_ownOf_23 (v := 0) ic_0 (q := 24) rfl ?_
          refine zIstoreN d_X0_ownOf_24 rfl (by decide) rfl (q := 25) rfl ?_
          refine zIloadN d_X0_ownOf_25 rfl rfl (q := 26) rfl ?_
          refine zIf_eq d_X0_ownOf_26 (tgt := 41) (q := 29) (by decide) rfl (fun _ => ?_) (fun h => absurd h (by decide))
          refine zIconst d_X0_ownOf_41 (v := 0) ic_0 (q := 42) rfl ?_
          refine zIret d_X0_ownOf_42 rfl rfl rfl ?_
          exact zPi (by unfold zOwn; first | (rw [if_pos hall, hx, zcl_n (by omega)]; done) | (rw [if_neg (fun q => by grind)]))
        · obtain ⟨i, hi, hk⟩ := zn1 (x := k) (n := 8) (by omega) (by grind) (by have : nI 8 = 8 := rfl; grind)
          obtain ⟨j, hj, ha⟩ := zn1 (x := a) (n := 4) (by omega) (by grind) (by have : nI 4 = 4 := rfl; grind)
          have hx : (4 : Int32) * k + a = nI (4 * i + j) := by rw [hk, ha, ← nI_add, ← pk_mul]; rfl
          have hall : (0 ≤ k ∧ k < 8) ∧ (0 ≤ a ∧ a < 4) := by grind
          refine zIconst d_X0_ownOf_19 (v := 1) ic_1 (q := 20) rfl ?_
          refine zGoto d_X0_ownOf_20 (q := 24) (by decide) ?_
          refine zIstoreN d_X0_ownOf_24 rfl (by decide) rfl (q := 25) rfl ?_
          refine zIloadN d_X0_ownOf_25 rfl rfl (q := 26) rfl ?_
          refine zIf_eq d_X0_ownOf_26 (tgt := 41) (q := 29) (by decide) rfl (fun h => absurd h (by decide)) (fun _ => ?_)
          refine zGetS3 d_X0_ownOf_29 fl_X0_59 (q := 32) rfl ?_
          refine zIconst d_X0_ownOf_32 (v := 4) ic_4 (q := 33) rfl ?_
          refine zIloadN d_X0_ownOf_33 rfl rfl (q := 34) rfl ?_
          refine zImul d_X0_ownOf_34 (q := 35) rfl ?_
          refine zIloadN d_X0_ownOf_35 rfl rfl (q := 36) rfl ?_
          refine zIadd d_X0_ownOf_36 (q := 37) rfl ?_
          refine zSi3 d_X0_ownOf_37 hx (by omega) (q := 38) rfl ?_
          refine zGoto d_X0_ownOf_38 (q := 42) (by decide) ?_
          refine zIret d_X0_ownOf_42 rfl rfl rfl ?_
          exact zPi (by unfold zOwn; first | (rw [if_pos hall, hx, zcl_n (by omega)]; done) | (rw [if_neg (fun q => by grind)]))
theorem sp_X0_traced (hd : 1 ≤ d) : zPure g l d m_X0_traced [.ref 38] I L fs (.int (if 24 < I 38 3 then 24 else I 38 3)) := by
  refine zSp_of (lv := [(0, .ref 38)]) k_X0_traced rfl (Nat.le_of_ble_eq_true rfl) ?_
  refine zAloadN d_X0_traced_0 rfl rfl (q := 1) rfl ?_
  refine zGetI d_X0_traced_1 ff_X0_29 sh_38 (by decide) (q := 4) rfl ?_
  refine zBipush d_X0_traced_4 (v := 24) bc_24 (q := 6) rfl ?_
  refine zMin d_X0_traced_6 ml_X0_32 (by omega) (Nat.le_of_ble_eq_true rfl) ⟨Nat.le_refl _, Nat.le_refl _⟩ (q := 9) rfl ?_
  refine zIret d_X0_traced_9 rfl rfl rfl ?_
  exact zPi (by grind)
theorem sp_X0_isUnder (hd : 2 ≤ d) {k o : Int32} : zSp g l d 100 m_X0_isUnder [.int k, .int o] (zU I L fs) (zP (.int (if zUl 8 k o = o then 1 else 0)) (zU I L fs)) := by
  have loop : ∀ i, i ≤ 8 → ∀ c, zUl (8 - i) c o = zUl 8 k o → zA g l d m_X0_isUnder I L fs 4 [(3, .int (nI i)), (2, .int c), (0, .int k), (1, .int o)] (zP (.int (if zUl 8 k o = o then 1 else 0)) (zU I L fs)) := by
    refine zloop 8 (fun i hi ih c hx => ?_)
    refine zIloadN d_X0_isUnder_4 rfl rfl (q := 5) rfl ?_
    refine zBipush d_X0_isUnder_5 (v := 8) bc_8 (q := 7) rfl ?_
    refine zIcmp_ge d_X0_isUnder_7 (tgt := 26) (q := 10) (by decide) rfl (fun h7 => ?_) (fun h7 => ?_)
    · have e : i = 8 := by have := nle (b := 8) h7; omega
      subst e
      have hx : c = zUl 8 k o := hx
      refine zIloadN d_X0_isUnder_26 rfl rfl (q := 27) rfl ?_
      refine zIloadN d_X0_isUnder_27 rfl rfl (q := 28) rfl ?_
      refine zIcmp_ne d_X0_isUnder_28 (tgt := 35) (q := 31) (by decide) rfl (fun h28 => ?_) (fun h28 => ?_)
      · refine zIconst d_X0_isUnder_35 (v := 0) ic_0 (q := 36) rfl ?_
        refine zIret d_X0_isUnder_36 rfl rfl rfl ?_
        exact zPi (by rw [← hx]; first | rw [if_pos h28] | rw [if_neg h28] | rw [if_pos (Decidable.not_not.mp h28)])
      · refine zIconst d_X0_isUnder_31 (v := 1) ic_1 (q := 32) rfl ?_
        refine zGoto d_X0_isUnder_32 (q := 36) (by decide) ?_
        refine zIret d_X0_isUnder_36 rfl rfl rfl ?_
        exact zPi (by rw [← hx]; first | rw [if_pos h28] | rw [if_neg h28] | rw [if_pos (Decidable.not_not.mp h28)])
    · have hlt := nnle (b := 8) h7
      obtain ⟨m, hm⟩ : ∃ m, 8 - i = m + 1 := ⟨8 - i - 1, by omega⟩
      have hm2 : 8 - (i + 1) = m := by omega
      rw [hm] at hx
      refine zIloadN d_X0_isUnder_10 rfl rfl (q := 11) rfl ?_
      refine zIloadN d_X0_isUnder_11 rfl rfl (q := 12) rfl ?_
      refine zIcmp_eq d_X0_isUnder_12 (tgt := 26) (q := 15) (by decide) rfl (fun h12 => ?_) (fun h12 => ?_)
      · have hx : c = zUl 8 k o := by rw [← hx]; exact (if_pos h12).symm
        refine zIloadN d_X0_isUnder_26 rfl rfl (q := 27) rfl ?_
        refine zIloadN d_X0_isUnder_27 rfl rfl (q := 28) rfl ?_
        refine zIcmp_ne d_X0_isUnder_28 (tgt := 35) (q := 31) (by decide) rfl (fun h28 => ?_) (fun h28 => ?_)
        · refine zIconst d_X0_isUnder_35 (v := 0) ic_0 (q := 36) rfl ?_
          refine zIret d_X0_isUnder_36 rfl rfl rfl ?_
          exact zPi (by rw [← hx]; first | rw [if_pos h28] | rw [if_neg h28] | rw [if_pos (Decidable.not_not.mp h28)])
        · refine zIconst d_X0_isUnder_31 (v := 1) ic_1 (q := 32) rfl ?_
          refine zGoto d_X0_isUnder_32 (q := 36) (by decide) ?_
          refine zIret d_X0_isUnder_36 rfl rfl rfl ?_
          exact zPi (by rw [← hx]; first | rw [if_pos h28] | rw [if_neg h28] | rw [if_pos (Decidable.not_not.mp h28)])
      · refine zIloadN d_X0_isUnder_15 rfl rfl (q := 16) rfl ?_
        refine zCallSP d_X0_isUnder_16 ml_X0_22 k_X0_above kt_X0_above (sp_X0_above (d := d - 1) (by omega) ) rfl rfl (Nat.le_of_ble_eq_true rfl) (by decide) (by omega) zns100 (q := 19) rfl ?_
        refine zIstoreN d_X0_isUnder_19 rfl (by decide) rfl (q := 20) rfl ?_
        refine zIinc d_X0_isUnder_20 rfl (zinc _) (by decide) rfl (q := 23) rfl ?_
        refine zGoto d_X0_isUnder_23 (q := 4) (by decide) ?_
        refine zSub [0, 1, 2, 3] rfl ?_
        exact ih hlt _ (by rw [hm2, ← hx]; exact (if_neg h12).symm)
  refine zSp_of (lv := [(0, .int k), (1, .int o)]) k_X0_isUnder rfl (Nat.le_of_ble_eq_true rfl) ?_
  refine zIloadN d_X0_isUnder_0 rfl rfl (q := 1) rfl ?_
  refine zIstoreN d_X0_isUnder_1 rfl (by decide) rfl (q := 2) rfl ?_
  refine zIconst d_X0_isUnder_2 (v := 0) ic_0 (q := 3) rfl ?_
  refine zIstoreN d_X0_isUnder_3 rfl (by decide) rfl (q := 4) rfl ?_
  refine zSub [0, 1, 2, 3] rfl ?_
  exact loop 0 (Nat.zero_le _) k rfl
theorem sp_X0_begin (hd : 1 ≤ d) {r : Nat} (hr : I 38 3 = nI r) (h : r < 1000000) {o : Int32} : zSp g l d 100 m_X0_begin [.ref 38, .int o] (zU I L fs) (zV (fun w => w = zU (zTrI I r [o]) L fs)) := by
  refine zSp_of (lv := [(0, .ref 38), (1, .int o)]) k_X0_begin rfl (Nat.le_of_ble_eq_true rfl) ?_
  refine zAloadN d_X0_begin_0 rfl rfl (q := 1) rfl ?_
  refine zGetI d_X0_begin_1 ff_X0_29 sh_38 (by decide) (q := 4) rfl ?_
  refine zBipush d_X0_begin_4 (v := 24) bc_24 (q := 6) rfl ?_
  refine zIcmp_ge d_X0_begin_6 (tgt := 19) (q := 9) (by decide) rfl (fun h6 => ?_) (fun h6 => ?_)
  · have e : ¬ r < 24 := by rw [hr] at h6; have := nle (b := 24) h6; omega
    have ef : zTrF (I 40) r [o] = I 40 := by show (if r < 24 then zup (I 40) r o else I 40) = I 40; rw [if_neg e]
    refine zAloadN d_X0_begin_19 rfl rfl (q := 20) rfl ?_
    refine zDup d_X0_begin_20 rfl (q := 21) rfl ?_
    refine zGetI d_X0_begin_21 ff_X0_29 sh_38 (by decide) (q := 24) rfl ?_
    refine zIconst d_X0_begin_24 (v := 1) ic_1 (q := 25) rfl ?_
    refine zIadd d_X0_begin_25 (q := 26) rfl ?_
    refine zPutI d_X0_begin_26 ff_X0_29 rfl rfl rfl sh_38 (by decide) (q := 29) rfl ?_
    refine zVret d_X0_begin_29 rfl rfl ?_
    refine ⟨rfl, ?_⟩
    unfold zTrI
    rw [ef, List.length_singleton, ← nI_1, ← hr]
    first | rfl | (rw [zup_self]; done)
  · have e : r < 24 := by rw [hr] at h6; exact nnle (b := 24) h6
    have ef : zTrF (I 40) r [o] = zup (I 40) r o := by show (if r < 24 then zup (I 40) r o else I 40) = _; rw [if_pos e]
    refine zAloadN d_X0_begin_9 rfl rfl (q := 10) rfl ?_
    refine zGetR d_X0_begin_10 ff_X0_15 sh_38 (by decide) r_38_1 (q := 13) rfl ?_
    refine zAloadN d_X0_begin_13 rfl rfl (q := 14) rfl ?_
    refine zGetI d_X0_begin_14 ff_X0_29 sh_38 (by decide) (q := 17) rfl ?_
    refine zIloadN d_X0_begin_17 rfl rfl (q := 18) rfl ?_
    refine zIast d_X0_begin_18 sh_40 (by decide) hr (by omega) (q := 19) rfl ?_
    refine zAloadN d_X0_begin_19 rfl rfl (q := 20) rfl ?_
    refine zDup d_X0_begin_20 rfl (q := 21) rfl ?_
    refine zGetI d_X0_begin_21 ff_X0_29 sh_38 (by decide) (q := 24) rfl ?_
    refine zIconst d_X0_begin_24 (v := 1) ic_1 (q := 25) rfl ?_
    refine zIadd d_X0_begin_25 (q := 26) rfl ?_
    refine zPutI d_X0_begin_26 ff_X0_29 rfl rfl rfl sh_38 (by decide) (q := 29) rfl ?_
    refine zVret d_X0_begin_29 rfl rfl ?_
    refine ⟨rfl, ?_⟩
    unfold zTrI
    rw [ef, List.length_singleton, ← nI_1, ← hr]
    first | rfl | (rw [zup_self]; done)
end S13

