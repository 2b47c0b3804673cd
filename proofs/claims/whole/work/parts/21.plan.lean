theorem d_X6_add_0 : decode (zmc m_X6_add) 0 = .ok (.aload_n 0, 1) := by decide +kernel
theorem d_X6_add_1 : decode (zmc m_X6_add) 1 = .ok (.getfield 22, 3) := by decide +kernel
theorem d_X6_add_4 : decode (zmc m_X6_add) 4 = .ok (.sipush 128, 3) := by decide +kernel
theorem d_X6_add_7 : decode (zmc m_X6_add) 7 = .ok (.if_icmp .ge 33, 3) := by decide +kernel
theorem d_X6_add_10 : decode (zmc m_X6_add) 10 = .ok (.aload_n 0, 1) := by decide +kernel
theorem d_X6_add_11 : decode (zmc m_X6_add) 11 = .ok (.getfield 9, 3) := by decide +kernel
theorem d_X6_add_14 : decode (zmc m_X6_add) 14 = .ok (.aload_n 0, 1) := by decide +kernel
theorem d_X6_add_15 : decode (zmc m_X6_add) 15 = .ok (.getfield 22, 3) := by decide +kernel
theorem d_X6_add_18 : decode (zmc m_X6_add) 18 = .ok (.iload_n 1, 1) := by decide +kernel
theorem d_X6_add_19 : decode (zmc m_X6_add) 19 = .ok (.iastore, 1) := by decide +kernel
theorem d_X6_add_20 : decode (zmc m_X6_add) 20 = .ok (.aload_n 0, 1) := by decide +kernel
theorem d_X6_add_21 : decode (zmc m_X6_add) 21 = .ok (.getfield 13, 3) := by decide +kernel
theorem d_X6_add_24 : decode (zmc m_X6_add) 24 = .ok (.aload_n 0, 1) := by decide +kernel
theorem d_X6_add_25 : decode (zmc m_X6_add) 25 = .ok (.getfield 22, 3) := by decide +kernel
theorem d_X6_add_28 : decode (zmc m_X6_add) 28 = .ok (.iload_n 2, 1) := by decide +kernel
theorem d_X6_add_29 : decode (zmc m_X6_add) 29 = .ok (.iastore, 1) := by decide +kernel
theorem d_X6_add_30 : decode (zmc m_X6_add) 30 = .ok (.aload_n 0, 1) := by decide +kernel
theorem d_X6_add_31 : decode (zmc m_X6_add) 31 = .ok (.dup, 1) := by decide +kernel
theorem d_X6_add_32 : decode (zmc m_X6_add) 32 = .ok (.getfield 22, 3) := by decide +kernel
theorem d_X6_add_35 : decode (zmc m_X6_add) 35 = .ok (.iconst 1, 1) := by decide +kernel
theorem d_X6_add_36 : decode (zmc m_X6_add) 36 = .ok (.iadd, 1) := by decide +kernel
theorem d_X6_add_37 : decode (zmc m_X6_add) 37 = .ok (.putfield 22, 3) := by decide +kernel
theorem d_X6_add_40 : decode (zmc m_X6_add) 40 = .ok (.return_, 1) := by decide +kernel
theorem d_X6_leadHere_0 : decode (zmc m_X6_leadHere) 0 = .ok (.iload_n 1, 1) := by decide +kernel
theorem d_X6_leadHere_1 : decode (zmc m_X6_leadHere) 1 = .ok (.ifCond .lt 21, 3) := by decide +kernel
theorem d_X6_leadHere_4 : decode (zmc m_X6_leadHere) 4 = .ok (.iload_n 1, 1) := by decide +kernel
theorem d_X6_leadHere_5 : decode (zmc m_X6_leadHere) 5 = .ok (.aload_n 0, 1) := by decide +kernel
theorem d_X6_leadHere_6 : decode (zmc m_X6_leadHere) 6 = .ok (.getfield 22, 3) := by decide +kernel
theorem d_X6_leadHere_9 : decode (zmc m_X6_leadHere) 9 = .ok (.if_icmp .ge 13, 3) := by decide +kernel
theorem d_X6_leadHere_12 : decode (zmc m_X6_leadHere) 12 = .ok (.aload_n 0, 1) := by decide +kernel
theorem d_X6_leadHere_13 : decode (zmc m_X6_leadHere) 13 = .ok (.getfield 13, 3) := by decide +kernel
theorem d_X6_leadHere_16 : decode (zmc m_X6_leadHere) 16 = .ok (.iload_n 1, 1) := by decide +kernel
theorem d_X6_leadHere_17 : decode (zmc m_X6_leadHere) 17 = .ok (.aload_n 0, 1) := by decide +kernel
theorem d_X6_leadHere_18 : decode (zmc m_X6_leadHere) 18 = .ok (.getfield 22, 3) := by decide +kernel
theorem d_X6_leadHere_21 : decode (zmc m_X6_leadHere) 21 = .ok (.iastore, 1) := by decide +kernel
theorem d_X6_leadHere_22 : decode (zmc m_X6_leadHere) 22 = .ok (.return_, 1) := by decide +kernel
theorem d_X6_oddsOf_0 : decode (zmc m_X6_oddsOf) 0 = .ok (.aload_n 0, 1) := by decide +kernel
theorem d_X6_oddsOf_1 : decode (zmc m_X6_oddsOf) 1 = .ok (.getfield 19, 3) := by decide +kernel
theorem d_X6_oddsOf_4 : decode (zmc m_X6_oddsOf) 4 = .ok (.iconst 0, 1) := by decide +kernel
theorem d_X6_oddsOf_5 : decode (zmc m_X6_oddsOf) 5 = .ok (.aload_n 1, 1) := by decide +kernel
theorem d_X6_oddsOf_6 : decode (zmc m_X6_oddsOf) 6 = .ok (.bipush 6, 2) := by decide +kernel
theorem d_X6_oddsOf_8 : decode (zmc m_X6_oddsOf) 8 = .ok (.iload_n 3, 1) := by decide +kernel
theorem d_X6_oddsOf_9 : decode (zmc m_X6_oddsOf) 9 = .ok (.invokevirtual 28, 3) := by decide +kernel
theorem d_X6_oddsOf_12 : decode (zmc m_X6_oddsOf) 12 = .ok (.iastore, 1) := by decide +kernel
theorem d_X6_oddsOf_13 : decode (zmc m_X6_oddsOf) 13 = .ok (.aload_n 0, 1) := by decide +kernel
theorem d_X6_oddsOf_14 : decode (zmc m_X6_oddsOf) 14 = .ok (.getfield 19, 3) := by decide +kernel
theorem d_X6_oddsOf_17 : decode (zmc m_X6_oddsOf) 17 = .ok (.iconst 1, 1) := by decide +kernel
theorem d_X6_oddsOf_18 : decode (zmc m_X6_oddsOf) 18 = .ok (.aload_n 1, 1) := by decide +kernel
theorem d_X6_oddsOf_19 : decode (zmc m_X6_oddsOf) 19 = .ok (.iconst 2, 1) := by decide +kernel
theorem d_X6_oddsOf_20 : decode (zmc m_X6_oddsOf) 20 = .ok (.iload_n 2, 1) := by decide +kernel
theorem d_X6_oddsOf_21 : decode (zmc m_X6_oddsOf) 21 = .ok (.invokevirtual 28, 3) := by decide +kernel
theorem d_X6_oddsOf_24 : decode (zmc m_X6_oddsOf) 24 = .ok (.iastore, 1) := by decide +kernel
theorem d_X6_oddsOf_25 : decode (zmc m_X6_oddsOf) 25 = .ok (.aload_n 0, 1) := by decide +kernel
theorem d_X6_oddsOf_26 : decode (zmc m_X6_oddsOf) 26 = .ok (.getfield 19, 3) := by decide +kernel
theorem d_X6_oddsOf_29 : decode (zmc m_X6_oddsOf) 29 = .ok (.iconst 2, 1) := by decide +kernel
theorem d_X6_oddsOf_30 : decode (zmc m_X6_oddsOf) 30 = .ok (.aload_n 1, 1) := by decide +kernel
theorem d_X6_oddsOf_31 : decode (zmc m_X6_oddsOf) 31 = .ok (.iconst 1, 1) := by decide +kernel
theorem d_X6_oddsOf_32 : decode (zmc m_X6_oddsOf) 32 = .ok (.iload_n 2, 1) := by decide +kernel
theorem d_X6_oddsOf_33 : decode (zmc m_X6_oddsOf) 33 = .ok (.invokevirtual 28, 3) := by decide +kernel
theorem d_X6_oddsOf_36 : decode (zmc m_X6_oddsOf) 36 = .ok (.iastore, 1) := by decide +kernel
theorem d_X6_oddsOf_37 : decode (zmc m_X6_oddsOf) 37 = .ok (.aload_n 0, 1) := by decide +kernel
theorem d_X6_oddsOf_38 : decode (zmc m_X6_oddsOf) 38 = .ok (.getfield 19, 3) := by decide +kernel
theorem d_X6_oddsOf_41 : decode (zmc m_X6_oddsOf) 41 = .ok (.iconst 3, 1) := by decide +kernel
theorem d_X6_oddsOf_42 : decode (zmc m_X6_oddsOf) 42 = .ok (.aload_n 1, 1) := by decide +kernel
theorem d_X6_oddsOf_43 : decode (zmc m_X6_oddsOf) 43 = .ok (.iconst 0, 1) := by decide +kernel
theorem d_X6_oddsOf_44 : decode (zmc m_X6_oddsOf) 44 = .ok (.iload_n 2, 1) := by decide +kernel
theorem d_X6_oddsOf_45 : decode (zmc m_X6_oddsOf) 45 = .ok (.invokevirtual 28, 3) := by decide +kernel
theorem d_X6_oddsOf_48 : decode (zmc m_X6_oddsOf) 48 = .ok (.bipush 8, 2) := by decide +kernel
theorem d_X6_oddsOf_50 : decode (zmc m_X6_oddsOf) 50 = .ok (.idiv, 1) := by decide +kernel
theorem d_X6_oddsOf_51 : decode (zmc m_X6_oddsOf) 51 = .ok (.iastore, 1) := by decide +kernel
theorem d_X6_oddsOf_52 : decode (zmc m_X6_oddsOf) 52 = .ok (.aload_n 0, 1) := by decide +kernel
theorem d_X6_oddsOf_53 : decode (zmc m_X6_oddsOf) 53 = .ok (.getfield 19, 3) := by decide +kernel
theorem d_X6_oddsOf_56 : decode (zmc m_X6_oddsOf) 56 = .ok (.iconst 4, 1) := by decide +kernel
theorem d_X6_oddsOf_57 : decode (zmc m_X6_oddsOf) 57 = .ok (.aload_n 1, 1) := by decide +kernel
theorem d_X6_oddsOf_58 : decode (zmc m_X6_oddsOf) 58 = .ok (.iconst 3, 1) := by decide +kernel
theorem d_X6_oddsOf_59 : decode (zmc m_X6_oddsOf) 59 = .ok (.iload_n 2, 1) := by decide +kernel
theorem d_X6_oddsOf_60 : decode (zmc m_X6_oddsOf) 60 = .ok (.invokevirtual 28, 3) := by decide +kernel
theorem d_X6_oddsOf_63 : decode (zmc m_X6_oddsOf) 63 = .ok (.iastore, 1) := by decide +kernel
theorem d_X6_oddsOf_64 : decode (zmc m_X6_oddsOf) 64 = .ok (.aload_n 0, 1) := by decide +kernel
theorem d_X6_oddsOf_65 : decode (zmc m_X6_oddsOf) 65 = .ok (.getfield 19, 3) := by decide +kernel
theorem d_X6_oddsOf_68 : decode (zmc m_X6_oddsOf) 68 = .ok (.iconst 5, 1) := by decide +kernel
theorem d_X6_oddsOf_69 : decode (zmc m_X6_oddsOf) 69 = .ok (.iload 4, 2) := by decide +kernel
theorem d_X6_oddsOf_71 : decode (zmc m_X6_oddsOf) 71 = .ok (.iastore, 1) := by decide +kernel
theorem d_X6_oddsOf_72 : decode (zmc m_X6_oddsOf) 72 = .ok (.aload_n 0, 1) := by decide +kernel
theorem d_X6_oddsOf_73 : decode (zmc m_X6_oddsOf) 73 = .ok (.getfield 22, 3) := by decide +kernel
theorem d_X6_oddsOf_76 : decode (zmc m_X6_oddsOf) 76 = .ok (.ifCond .ne 10, 3) := by decide +kernel
theorem d_X6_oddsOf_79 : decode (zmc m_X6_oddsOf) 79 = .ok (.aload_n 0, 1) := by decide +kernel
theorem d_X6_oddsOf_80 : decode (zmc m_X6_oddsOf) 80 = .ok (.invokevirtual 32, 3) := by decide +kernel
theorem d_X6_oddsOf_83 : decode (zmc m_X6_oddsOf) 83 = .ok (.goto 7, 3) := by decide +kernel
theorem d_X6_oddsOf_86 : decode (zmc m_X6_oddsOf) 86 = .ok (.aload_n 0, 1) := by decide +kernel
theorem d_X6_oddsOf_87 : decode (zmc m_X6_oddsOf) 87 = .ok (.invokevirtual 36, 3) := by decide +kernel
theorem d_X6_oddsOf_90 : decode (zmc m_X6_oddsOf) 90 = .ok (.istore 5, 2) := by decide +kernel
theorem d_X6_oddsOf_92 : decode (zmc m_X6_oddsOf) 92 = .ok (.iconst 0, 1) := by decide +kernel
theorem d_X6_oddsOf_93 : decode (zmc m_X6_oddsOf) 93 = .ok (.bipush 12, 2) := by decide +kernel
theorem d_X6_oddsOf_95 : decode (zmc m_X6_oddsOf) 95 = .ok (.iload 5, 2) := by decide +kernel
theorem d_X6_oddsOf_97 : decode (zmc m_X6_oddsOf) 97 = .ok (.invokestatic 39, 3) := by decide +kernel
theorem d_X6_oddsOf_100 : decode (zmc m_X6_oddsOf) 100 = .ok (.invokestatic 44, 3) := by decide +kernel
theorem d_X6_oddsOf_103 : decode (zmc m_X6_oddsOf) 103 = .ok (.ireturn, 1) := by decide +kernel
theorem d_X7_next_0 : decode (zmc m_X7_next) 0 = .ok (.iload_n 0, 1) := by decide +kernel
theorem d_X7_next_1 : decode (zmc m_X7_next) 1 = .ok (.ldc 71, 2) := by decide +kernel
theorem d_X7_next_3 : decode (zmc m_X7_next) 3 = .ok (.imul, 1) := by decide +kernel
theorem d_X7_next_4 : decode (zmc m_X7_next) 4 = .ok (.sipush 12345, 3) := by decide +kernel
theorem d_X7_next_7 : decode (zmc m_X7_next) 7 = .ok (.iadd, 1) := by decide +kernel
theorem d_X7_next_8 : decode (zmc m_X7_next) 8 = .ok (.ireturn, 1) := by decide +kernel
theorem d_X7_nightFrom_0 : decode (zmc m_X7_nightFrom) 0 = .ok (.iconst 0, 1) := by decide +kernel
theorem d_X7_nightFrom_1 : decode (zmc m_X7_nightFrom) 1 = .ok (.istore_n 2, 1) := by decide +kernel
theorem d_X7_nightFrom_2 : decode (zmc m_X7_nightFrom) 2 = .ok (.iload_n 2, 1) := by decide +kernel
theorem d_X7_nightFrom_3 : decode (zmc m_X7_nightFrom) 3 = .ok (.aload_n 0, 1) := by decide +kernel
theorem d_X7_nightFrom_4 : decode (zmc m_X7_nightFrom) 4 = .ok (.getfield 28, 3) := by decide +kernel
theorem d_X7_nightFrom_7 : decode (zmc m_X7_nightFrom) 7 = .ok (.if_icmp .ge 47, 3) := by decide +kernel
theorem d_X7_nightFrom_10 : decode (zmc m_X7_nightFrom) 10 = .ok (.aload_n 0, 1) := by decide +kernel
theorem d_X7_nightFrom_11 : decode (zmc m_X7_nightFrom) 11 = .ok (.aload_n 0, 1) := by decide +kernel
theorem d_X7_nightFrom_12 : decode (zmc m_X7_nightFrom) 12 = .ok (.getfield 62, 3) := by decide +kernel
theorem d_X7_nightFrom_15 : decode (zmc m_X7_nightFrom) 15 = .ok (.invokestatic 65, 3) := by decide +kernel
theorem d_X7_nightFrom_18 : decode (zmc m_X7_nightFrom) 18 = .ok (.putfield 62, 3) := by decide +kernel
theorem d_X7_nightFrom_21 : decode (zmc m_X7_nightFrom) 21 = .ok (.aload_n 0, 1) := by decide +kernel
theorem d_X7_nightFrom_22 : decode (zmc m_X7_nightFrom) 22 = .ok (.getfield 62, 3) := by decide +kernel
theorem d_X7_nightFrom_25 : decode (zmc m_X7_nightFrom) 25 = .ok (.aload_n 0, 1) := by decide +kernel
theorem d_X7_nightFrom_26 : decode (zmc m_X7_nightFrom) 26 = .ok (.getfield 18, 3) := by decide +kernel
theorem d_X7_nightFrom_29 : decode (zmc m_X7_nightFrom) 29 = .ok (.iload_n 2, 1) := by decide +kernel
theorem d_X7_nightFrom_30 : decode (zmc m_X7_nightFrom) 30 = .ok (.iaload, 1) := by decide +kernel
theorem d_X7_nightFrom_31 : decode (zmc m_X7_nightFrom) 31 = .ok (.invokestatic 68, 3) := by decide +kernel
theorem d_X7_nightFrom_34 : decode (zmc m_X7_nightFrom) 34 = .ok (.ifCond .eq 14, 3) := by decide +kernel
theorem d_X7_nightFrom_37 : decode (zmc m_X7_nightFrom) 37 = .ok (.iload_n 1, 1) := by decide +kernel
theorem d_X7_nightFrom_38 : decode (zmc m_X7_nightFrom) 38 = .ok (.iconst 1, 1) := by decide +kernel
theorem d_X7_nightFrom_39 : decode (zmc m_X7_nightFrom) 39 = .ok (.aload_n 0, 1) := by decide +kernel
theorem d_X7_nightFrom_40 : decode (zmc m_X7_nightFrom) 40 = .ok (.getfield 9, 3) := by decide +kernel
theorem d_X7_nightFrom_43 : decode (zmc m_X7_nightFrom) 43 = .ok (.iload_n 2, 1) := by decide +kernel
theorem d_X7_nightFrom_44 : decode (zmc m_X7_nightFrom) 44 = .ok (.iaload, 1) := by decide +kernel
theorem d_X7_nightFrom_45 : decode (zmc m_X7_nightFrom) 45 = .ok (.ishl, 1) := by decide +kernel
theorem d_X7_nightFrom_46 : decode (zmc m_X7_nightFrom) 46 = .ok (.ior, 1) := by decide +kernel
theorem d_X7_nightFrom_47 : decode (zmc m_X7_nightFrom) 47 = .ok (.istore_n 1, 1) := by decide +kernel
theorem d_X7_nightFrom_48 : decode (zmc m_X7_nightFrom) 48 = .ok (.iinc 2 1, 3) := by decide +kernel
theorem d_X7_nightFrom_51 : decode (zmc m_X7_nightFrom) 51 = .ok (.goto (-49), 3) := by decide +kernel
theorem d_X7_nightFrom_54 : decode (zmc m_X7_nightFrom) 54 = .ok (.iload_n 1, 1) := by decide +kernel
theorem d_X7_nightFrom_55 : decode (zmc m_X7_nightFrom) 55 = .ok (.ireturn, 1) := by decide +kernel
theorem d_X7_sticks_0 : decode (zmc m_X7_sticks) 0 = .ok (.iload_n 0, 1) := by decide +kernel
theorem d_X7_sticks_1 : decode (zmc m_X7_sticks) 1 = .ok (.bipush 8, 2) := by decide +kernel
theorem d_X7_sticks_3 : decode (zmc m_X7_sticks) 3 = .ok (.iushr, 1) := by decide +kernel
theorem d_X7_sticks_4 : decode (zmc m_X7_sticks) 4 = .ok (.bipush 12, 2) := by decide +kernel
theorem d_X7_sticks_6 : decode (zmc m_X7_sticks) 6 = .ok (.irem, 1) := by decide +kernel
theorem d_X7_sticks_7 : decode (zmc m_X7_sticks) 7 = .ok (.iload_n 1, 1) := by decide +kernel
theorem d_X7_sticks_8 : decode (zmc m_X7_sticks) 8 = .ok (.if_icmp .ge 7, 3) := by decide +kernel
theorem d_X7_sticks_11 : decode (zmc m_X7_sticks) 11 = .ok (.iconst 1, 1) := by decide +kernel
theorem d_X7_sticks_12 : decode (zmc m_X7_sticks) 12 = .ok (.goto 4, 3) := by decide +kernel
theorem d_X7_sticks_15 : decode (zmc m_X7_sticks) 15 = .ok (.iconst 0, 1) := by decide +kernel
theorem d_X7_sticks_16 : decode (zmc m_X7_sticks) 16 = .ok (.ireturn, 1) := by decide +kernel
/-! ODDS, A PLAN -/
def zEn (I : Nat → Nat → Int32) (s t : Nat) (m : Int32) : Nat → Int32 := fun k => if k = 0 then I 9 t else if k = 1 then I 5 s else if k = 2 then I 4 s else if k = 3 then I 3 s / 8 else if k = 4 then I 6 s else m
def zClmp (z : Int32) : Int32 := if 0 < (if z < 12 then z else 12) then (if z < 12 then z else 12) else 0
def zOdds (pg : Option (List zLine)) (env : Nat → Int32) : Int32 := zClmp (match pg with
  | none => 6 + env 0 / 2 + env 1 / 3 - env 2 / 3 - env 3 / 2
  | some ls => zEvL env ls)
def zLawOk (I : Nat → Nat → Int32) (h : Nat) : Option (List zLine) → Prop
  | none => I h 4 = 0
  | some ls => ∃ sz : Nat, I h 4 = nI sz ∧ 0 < sz ∧ sz ≤ 128 ∧ zLy (I (h + 1)) (I (h + 2)) 0 (zCd 0 ls) ∧ (zCd 0 ls).length = sz ∧ ∀ x ∈ ls, zWfL x
theorem zRunS_congr {e1 e2 : Nat → Int32} (he : ∀ k, k < 6 → e1 k = e2 k) : ∀ (c : List zSt1) (a b : Nat) (s : List Int32), zWfS c a b → zRunS e1 c s = zRunS e2 c s := by
  intro c
  induction c with
  | nil => intro a b s _; rfl
  | cons x c ih =>
    intro a b s hw
    show zRunS e1 c (zStp e1 x s) = zRunS e2 c (zStp e2 x s)
    have es : zStp e1 x s = zStp e2 x s := by
      rcases hw with ⟨h0, -⟩ | ⟨h1, ⟨k, hk, hk2⟩, -⟩ | ⟨h45, -, -⟩ | ⟨hop, -, -⟩
      · rw [zlen_stp.1 h0, zlen_stp.1 h0]
      · rw [zlen_stp.2 h1, zlen_stp.2 h1, hk2, zcl_n (by omega), he k hk]
      · have n1 : ¬ x.1 = 1 := by rcases h45 with h | h <;> rw [h] <;> decide
        match s with
        | [] => simp [zStp, n1]
        | [y] => simp [zStp, n1]
        | y :: z :: r => simp [zStp, n1]
      · have n1 := (zops hop).2.1
        match s with
        | [] => simp [zStp, n1]
        | [y] => simp [zStp, n1]
        | y :: z :: r => simp [zStp, n1]
    rw [es]
    rcases hw with ⟨_, h2⟩ | ⟨_, _, h2⟩ | ⟨_, _, h2⟩ | ⟨_, _, h2⟩
    all_goals exact ih _ _ _ h2
theorem zEvL_congr {e1 e2 : Nat → Int32} (he : ∀ k, k < 6 → e1 k = e2 k) : ∀ (ls : List zLine), (∀ x ∈ ls, zWfL x) → zEvL e1 ls = zEvL e2 ls := by
  intro ls
  induction ls with
  | nil => intro _; rfl
  | cons x ls ih =>
    intro hw
    obtain ⟨t, v⟩ := x
    have h1 := hw _ List.mem_cons_self
    have h2 := ih (fun y hy => hw y (List.mem_cons_of_mem _ hy))
    have ev := zRunS_congr he v 0 1 [] h1.1
    cases t with
    | none =>
      show zHd (zRunS e1 v []) = zHd (zRunS e2 v [])
      rw [ev]
    | some t =>
      show (if zHd (zRunS e1 t []) = 0 then zEvL e1 ls else zHd (zRunS e1 v [])) = (if zHd (zRunS e2 t []) = 0 then zEvL e2 ls else zHd (zRunS e2 v []))
      rw [ev, zRunS_congr he t 0 1 [] (h1.2 t rfl), h2]
def zNx (z : Int32) : Int32 := z * 1103515245 + 12345
def zDraw (z : Int32) : Int32 := zus z 8 - zus z 8 / 12 * 12
def zNt (S O : Nat → Int32) (n : Nat) (s : Int32 × Int32) : Int32 × Int32 := zfor (fun k s => (if zDraw (zNx s.2) < O k then s.1 ||| ((1 : Int32) <<< (S k &&& 31)) else s.1, zNx s.2)) n 0 s
section S21
variable {g : zG} {l : Launch} {d : Nat} {I : Nat → Nat → Int32} {L : Nat → Nat → Int64} {fs : Nat × Nat × Option Nat} {ns nt nh h : Nat}
theorem sp_X7_next (hd : 1 ≤ d) {z : Int32} : zPure g l d m_X7_next [.int z] I L fs (.int (zNx z)) := by
  refine zSp_of (lv := [(0, .int z)]) k_X7_next rfl (Nat.le_of_ble_eq_true rfl) ?_
  refine zIloadN d_X7_next_0 rfl rfl (q := 1) rfl ?_
  refine zLdc d_X7_next_1 co_X7_71 (q := 3) rfl ?_
  refine zImul d_X7_next_3 (q := 4) rfl ?_
  refine zSipush d_X7_next_4 (v := 12345) sc_12345 (q := 7) rfl ?_
  refine zIadd d_X7_next_7 (q := 8) rfl ?_
  refine zIret d_X7_next_8 rfl rfl rfl ?_
  exact zPi rfl
theorem sp_X7_sticks (hd : 1 ≤ d) {z o : Int32} : zPure g l d m_X7_sticks [.int z, .int o] I L fs (.int (bi (zDraw z < o))) := by
  refine zSp_of (lv := [(0, .int z), (1, .int o)]) k_X7_sticks rfl (Nat.le_of_ble_eq_true rfl) ?_
  refine zIloadN d_X7_sticks_0 rfl rfl (q := 1) rfl ?_
  refine zBipush d_X7_sticks_1 (v := 8) bc_8 (q := 3) rfl ?_
  refine zIushr d_X7_sticks_3 (q := 4) rfl ?_
  refine zBipush d_X7_sticks_4 (v := 12) bc_12 (q := 6) rfl ?_
  refine zIrem d_X7_sticks_6 (by decide) (q := 7) rfl ?_
  refine zIloadN d_X7_sticks_7 rfl rfl (q := 8) rfl ?_
  refine zIcmp_ge d_X7_sticks_8 (tgt := 15) (q := 11) (by decide) rfl (fun h8 => ?_) (fun h8 => ?_)
  · refine zIconst d_X7_sticks_15 (v := 0) ic_0 (q := 16) rfl ?_
    refine zIret d_X7_sticks_16 rfl rfl rfl ?_
    exact zPi (by first | exact (bi_f (Int32.not_lt.mpr h8)).symm | exact (bi_t (Int32.not_le.mp h8)).symm)
  · refine zIconst d_X7_sticks_11 (v := 1) ic_1 (q := 12) rfl ?_
    refine zGoto d_X7_sticks_12 (q := 16) (by decide) ?_
    refine zIret d_X7_sticks_16 rfl rfl rfl ?_
    exact zPi (by first | exact (bi_f (Int32.not_lt.mpr h8)).symm | exact (bi_t (Int32.not_le.mp h8)).symm)
theorem sp_X7_nightFrom (hd : 2 ≤ d) {n : Nat} (hn : I 24 4 = nI n) (h10 : n ≤ 10) {up : Int32} : zSp g l d 100 m_X7_nightFrom [.ref 24, .int up] (zU I L fs) (zX (fun x w => x = (zNt (I 25) (I 27) n (up, I 24 6)).1 ∧ w = zU (zup I 24 (zup (I 24) 6 (zNt (I 25) (I 27) n (up, I 24 6)).2)) L fs)) := by
  have loop : ∀ k, k ≤ n → ∀ s, zfor (fun k s => (if zDraw (zNx s.2) < I 27 k then s.1 ||| ((1 : Int32) <<< (I 25 k &&& 31)) else s.1, zNx s.2)) n k s = zNt (I 25) (I 27) n (up, I 24 6) → zA g l d m_X7_nightFrom (zup I 24 (zup (I 24) 6 s.2)) L fs 2 [(2, .int (nI k)), (0, .ref 24), (1, .int s.1)] (zX (fun x w => x = (zNt (I 25) (I 27) n (up, I 24 6)).1 ∧ w = zU (zup I 24 (zup (I 24) 6 (zNt (I 25) (I 27) n (up, I 24 6)).2)) L fs)) := by
    refine zloop n (fun k hk ih s hx => ?_)
    refine zIloadN d_X7_nightFrom_2 rfl rfl (q := 3) rfl ?_
    refine zAloadN d_X7_nightFrom_3 rfl rfl (q := 4) rfl ?_
    refine zGetI d_X7_nightFrom_4 ff_X7_28 sh_24 (by decide) (q := 7) rfl ?_
    refine zIcmp_ge d_X7_nightFrom_7 (tgt := 54) (q := 10) (by decide) rfl (fun h7 => ?_) (fun h7 => ?_)
    · have e : n ≤ k := nle (show nI n ≤ nI k from hn ▸ h7)
      rw [zfor_end e] at hx
      refine zIloadN d_X7_nightFrom_54 rfl rfl (q := 55) rfl ?_
      refine zIret d_X7_nightFrom_55 rfl rfl rfl ?_
      exact ⟨_, rfl, by rw [hx], by rw [hx]⟩
    · have hlt : k < n := nnle (show ¬ nI n ≤ nI k from hn ▸ h7)
      rw [zfor_step hlt] at hx
      refine zAloadN d_X7_nightFrom_10 rfl rfl (q := 11) rfl ?_
      refine zAloadN d_X7_nightFrom_11 rfl rfl (q := 12) rfl ?_
      refine zGetI d_X7_nightFrom_12 ff_X7_62 sh_24 (by decide) (q := 15) rfl ?_
      refine zCallSP d_X7_nightFrom_15 ml_X7_65 k_X7_next kt_X7_next (sp_X7_next (d := d - 1) (by omega) ) rfl rfl (Nat.le_of_ble_eq_true rfl) (by decide) (by omega) zns100 (q := 18) rfl ?_
      refine zPutI d_X7_nightFrom_18 ff_X7_62 rfl rfl rfl sh_24 (by decide) (q := 21) rfl ?_
      rw [zup_zup, zup_eq, show (zup (I 24) 6 s.2) 6 = s.2 from rfl, zup_zup]
      refine zAloadN d_X7_nightFrom_21 rfl rfl (q := 22) rfl ?_
      refine zGetI d_X7_nightFrom_22 ff_X7_62 sh_24 (by decide) (q := 25) rfl ?_
      refine zAloadN d_X7_nightFrom_25 rfl rfl (q := 26) rfl ?_
      refine zGetR d_X7_nightFrom_26 ff_X7_18 sh_24 (by decide) r_24_2 (q := 29) rfl ?_
      refine zIloadN d_X7_nightFrom_29 rfl rfl (q := 30) rfl ?_
      refine zIald d_X7_nightFrom_30 sh_27 (by decide) rfl (by omega) (q := 31) rfl ?_
      rw [show (zup I 24 (zup (I 24) 6 (zNx s.2))) 24 6 = zNx s.2 from rfl, show (zup I 24 (zup (I 24) 6 (zNx s.2))) 27 k = I 27 k from rfl]
      refine zCallSP d_X7_nightFrom_31 ml_X7_68 k_X7_sticks kt_X7_sticks (sp_X7_sticks (d := d - 1) (by omega) ) rfl rfl (Nat.le_of_ble_eq_true rfl) (by decide) (by omega) zns100 (q := 34) rfl ?_
      refine zIf_eq d_X7_nightFrom_34 (tgt := 48) (q := 37) (by decide) rfl (fun h34 => ?_) (fun h34 => ?_)
      · refine zIinc d_X7_nightFrom_48 rfl (zinc _) (by decide) rfl (q := 51) rfl ?_
        refine zGoto d_X7_nightFrom_51 (q := 2) (by decide) ?_
        refine zSub [0, 1, 2] rfl ?_
        first
        | exact ih hlt (s.1, zNx s.2) (by rw [← hx]; congr 1; exact congrArg (fun z => (z, zNx s.2)) (if_neg (bi_0.mp h34)).symm)
        | exact ih hlt (s.1 ||| ((1 : Int32) <<< (I 25 k &&& 31)), zNx s.2) (by rw [← hx]; congr 1; exact congrArg (fun z => (z, zNx s.2)) (if_pos (bi_n0.mp h34)).symm)
      · refine zIloadN d_X7_nightFrom_37 rfl rfl (q := 38) rfl ?_
        refine zIconst d_X7_nightFrom_38 (v := 1) ic_1 (q := 39) rfl ?_
        refine zAloadN d_X7_nightFrom_39 rfl rfl (q := 40) rfl ?_
        refine zGetR d_X7_nightFrom_40 ff_X7_9 sh_24 (by decide) r_24_0 (q := 43) rfl ?_
        refine zIloadN d_X7_nightFrom_43 rfl rfl (q := 44) rfl ?_
        refine zIald d_X7_nightFrom_44 sh_25 (by decide) rfl (by omega) (q := 45) rfl ?_
        refine zIshl d_X7_nightFrom_45 (q := 46) rfl ?_
        refine zIor d_X7_nightFrom_46 (q := 47) rfl ?_
        refine zIstoreN d_X7_nightFrom_47 rfl (by decide) rfl (q := 48) rfl ?_
        refine zIinc d_X7_nightFrom_48 rfl (zinc _) (by decide) rfl (q := 51) rfl ?_
        refine zGoto d_X7_nightFrom_51 (q := 2) (by decide) ?_
        refine zSub [0, 2, 1] rfl ?_
        first
        | exact ih hlt (s.1, zNx s.2) (by rw [← hx]; congr 1; exact congrArg (fun z => (z, zNx s.2)) (if_neg (bi_0.mp h34)).symm)
        | exact ih hlt (s.1 ||| ((1 : Int32) <<< (I 25 k &&& 31)), zNx s.2) (by rw [← hx]; congr 1; exact congrArg (fun z => (z, zNx s.2)) (if_pos (bi_n0.mp h34)).symm)
  have h0 := loop 0 (Nat.zero_le _) (up, I 24 6) rfl
  have e0 : zup I 24 (zup (I 24) 6 (up, I 24 6).2) = I := by show zup I 24 (zup (I 24) 6 (I 24 6)) = I; rw [zup_self, zup_self]
  rw [e0] at h0
  refine zSp_of (lv := [(0, .ref 24), (1, .int up)]) k_X7_nightFrom rfl (Nat.le_of_ble_eq_true rfl) ?_
  refine zIconst d_X7_nightFrom_0 (v := 0) ic_0 (q := 1) rfl ?_
  refine zIstoreN d_X7_nightFrom_1 rfl (by decide) rfl (q := 2) rfl ?_
  refine zSub [0, 1, 2] rfl ?_
  exact h0
theorem sp_X6_oddsOf (hd : 5 ≤ d) (hK : zSky I ns nt nh) (hw : zLwf h) {pg : Option (List zLine)} (hlw : zLawOk I h pg) {s t : Nat} (hs : s < ns) (ht : t < nt) {m : Int32} : zSp g l d 100 m_X6_oddsOf [.ref h, .ref 1, .int (nI s), .int (nI t), .int m] (zU I L fs) (zX (fun x w => x = zOdds pg (zEn I s t m) ∧ ∃ F G, w = zU (zup (zup I (h + 4) F) (h + 3) G) L fs)) := by
  have hh := hw.2.2.2.2.2.2.1
  have hK2 : ∀ f, zSky (zup I (h + 4) f) ns nt nh := fun f => zSky_up hK (by omega)
  have r9 : ∀ f a, a < 40 → (zup I (h + 4) f) a = I a := fun f a ha => zup_ne (by omega)
  obtain ⟨N, hN⟩ : ∃ N, N = zup (zup (zup (zup (zup (zup (I (h + 4)) 0 (I 9 t)) 1 (I 5 s)) 2 (I 4 s)) 3 (I 3 s / 8)) 4 (I 6 s)) 5 m := ⟨_, rfl⟩
  have hN6 : ∀ k, k < 6 → N k = zEn I s t m k := by
    intro k hk
    rw [hN]
    match k, hk with
    | 0, _ => rfl
    | 1, _ => rfl
    | 2, _ => rfl
    | 3, _ => rfl
    | 4, _ => rfl
    | 5, _ => rfl
  have clmp : ∀ z x : Int32, z = x → (if 0 < (if z < 12 then z else 12) then (if z < 12 then z else 12) else 0) = zClmp x := fun z x e => by rw [e]; rfl
  refine zSp_of (lv := [(0, .ref h), (1, .ref 1), (2, .int (nI s)), (3, .int (nI t)), (4, .int m)]) k_X6_oddsOf rfl (Nat.le_of_ble_eq_true rfl) ?_
  refine zAloadN d_X6_oddsOf_0 rfl rfl (q := 1) rfl ?_
  refine zGetR d_X6_oddsOf_1 ff_X6_19 hw.1 (zlt4 hw) (zlw3 hw) (q := 4) rfl ?_
  refine zIconst d_X6_oddsOf_4 (v := 0) ic_0 (q := 5) rfl ?_
  refine zAloadN d_X6_oddsOf_5 rfl rfl (q := 6) rfl ?_
  refine zBipush d_X6_oddsOf_6 (v := 6) bc_6 (q := 8) rfl ?_
  refine zIloadN d_X6_oddsOf_8 rfl rfl (q := 9) rfl ?_
  refine zCallVP d_X6_oddsOf_9 ml_X6_28 k_X9_get ki_X9_get ks_X9_get (sp_get6 (d := d - 1) (by omega) hK ht) rfl rfl sh_1 (by decide) rfl (by decide) (Nat.le_of_ble_eq_true rfl) (by decide) (by omega) zns100 (q := 12) rfl ?_
  refine zIast d_X6_oddsOf_12 hw.2.2.2.2.1 hw.2.2.2.2.2.1 (j := 0) rfl (by decide) (q := 13) rfl ?_
  refine zAloadN d_X6_oddsOf_13 rfl rfl (q := 14) rfl ?_
  refine zGetR d_X6_oddsOf_14 ff_X6_19 hw.1 (zlt4 hw) (zlw3 hw) (q := 17) rfl ?_
  refine zIconst d_X6_oddsOf_17 (v := 1) ic_1 (q := 18) rfl ?_
  refine zAloadN d_X6_oddsOf_18 rfl rfl (q := 19) rfl ?_
  refine zIconst d_X6_oddsOf_19 (v := 2) ic_2 (q := 20) rfl ?_
  refine zIloadN d_X6_oddsOf_20 rfl rfl (q := 21) rfl ?_
  refine zCallVP d_X6_oddsOf_21 ml_X6_28 k_X9_get ki_X9_get ks_X9_get (sp_get2 (d := d - 1) (by omega) (hK2 _) hs) rfl rfl sh_1 (by decide) rfl (by decide) (Nat.le_of_ble_eq_true rfl) (by decide) (by omega) zns100 (q := 24) rfl ?_
  rw [r9 _ 5 (by decide)]
  refine zIast d_X6_oddsOf_24 hw.2.2.2.2.1 hw.2.2.2.2.2.1 (j := 1) rfl (by decide) (q := 25) rfl ?_
  rw [zup_zup, zup_eq]
  refine zAloadN d_X6_oddsOf_25 rfl rfl (q := 26) rfl ?_
  refine zGetR d_X6_oddsOf_26 ff_X6_19 hw.1 (zlt4 hw) (zlw3 hw) (q := 29) rfl ?_
  refine zIconst d_X6_oddsOf_29 (v := 2) ic_2 (q := 30) rfl ?_
  refine zAloadN d_X6_oddsOf_30 rfl rfl (q := 31) rfl ?_
  refine zIconst d_X6_oddsOf_31 (v := 1) ic_1 (q := 32) rfl ?_
  refine zIloadN d_X6_oddsOf_32 rfl rfl (q := 33) rfl ?_
  refine zCallVP d_X6_oddsOf_33 ml_X6_28 k_X9_get ki_X9_get ks_X9_get (sp_get1 (d := d - 1) (by omega) (hK2 _) hs) rfl rfl sh_1 (by decide) rfl (by decide) (Nat.le_of_ble_eq_true rfl) (by decide) (by omega) zns100 (q := 36) rfl ?_
  rw [r9 _ 4 (by decide)]
  refine zIast d_X6_oddsOf_36 hw.2.2.2.2.1 hw.2.2.2.2.2.1 (j := 2) rfl (by decide) (q := 37) rfl ?_
  rw [zup_zup, zup_eq]
  refine zAloadN d_X6_oddsOf_37 rfl rfl (q := 38) rfl ?_
  refine zGetR d_X6_oddsOf_38 ff_X6_19 hw.1 (zlt4 hw) (zlw3 hw) (q := 41) rfl ?_
  refine zIconst d_X6_oddsOf_41 (v := 3) ic_3 (q := 42) rfl ?_
  refine zAloadN d_X6_oddsOf_42 rfl rfl (q := 43) rfl ?_
  refine zIconst d_X6_oddsOf_43 (v := 0) ic_0 (q := 44) rfl ?_
  refine zIloadN d_X6_oddsOf_44 rfl rfl (q := 45) rfl ?_
  refine zCallVP d_X6_oddsOf_45 ml_X6_28 k_X9_get ki_X9_get ks_X9_get (sp_get0 (d := d - 1) (by omega) (hK2 _) hs) rfl rfl sh_1 (by decide) rfl (by decide) (Nat.le_of_ble_eq_true rfl) (by decide) (by omega) zns100 (q := 48) rfl ?_
  rw [r9 _ 3 (by decide)]
  refine zBipush d_X6_oddsOf_48 (v := 8) bc_8 (q := 50) rfl ?_
  refine zIdiv d_X6_oddsOf_50 (by decide) (q := 51) rfl ?_
  refine zIast d_X6_oddsOf_51 hw.2.2.2.2.1 hw.2.2.2.2.2.1 (j := 3) rfl (by decide) (q := 52) rfl ?_
  rw [zup_zup, zup_eq]
  refine zAloadN d_X6_oddsOf_52 rfl rfl (q := 53) rfl ?_
  refine zGetR d_X6_oddsOf_53 ff_X6_19 hw.1 (zlt4 hw) (zlw3 hw) (q := 56) rfl ?_
  refine zIconst d_X6_oddsOf_56 (v := 4) ic_4 (q := 57) rfl ?_
  refine zAloadN d_X6_oddsOf_57 rfl rfl (q := 58) rfl ?_
  refine zIconst d_X6_oddsOf_58 (v := 3) ic_3 (q := 59) rfl ?_
  refine zIloadN d_X6_oddsOf_59 rfl rfl (q := 60) rfl ?_
  refine zCallVP d_X6_oddsOf_60 ml_X6_28 k_X9_get ki_X9_get ks_X9_get (sp_get3 (d := d - 1) (by omega) (hK2 _) hs) rfl rfl sh_1 (by decide) rfl (by decide) (Nat.le_of_ble_eq_true rfl) (by decide) (by omega) zns100 (q := 63) rfl ?_
  rw [r9 _ 6 (by decide)]
  refine zIast d_X6_oddsOf_63 hw.2.2.2.2.1 hw.2.2.2.2.2.1 (j := 4) rfl (by decide) (q := 64) rfl ?_
  rw [zup_zup, zup_eq]
  refine zAloadN d_X6_oddsOf_64 rfl rfl (q := 65) rfl ?_
  refine zGetR d_X6_oddsOf_65 ff_X6_19 hw.1 (zlt4 hw) (zlw3 hw) (q := 68) rfl ?_
  refine zIconst d_X6_oddsOf_68 (v := 5) ic_5 (q := 69) rfl ?_
  refine zIload d_X6_oddsOf_69 rfl (q := 71) rfl ?_
  refine zIast d_X6_oddsOf_71 hw.2.2.2.2.1 hw.2.2.2.2.2.1 (j := 5) rfl (by decide) (q := 72) rfl ?_
  rw [zup_zup, zup_eq, ← hN]
  refine zAloadN d_X6_oddsOf_72 rfl rfl (q := 73) rfl ?_
  refine zGetI d_X6_oddsOf_73 ff_X6_22 hw.1 (zlt4 hw) (q := 76) rfl ?_
  rw [zup_ne (f := I) (show h ≠ h + 4 by omega)]
  refine zIf_ne d_X6_oddsOf_76 (tgt := 86) (q := 79) (by decide) rfl (fun h76 => ?_) (fun h76 => ?_)
  · cases pg with
    | none => exact absurd hlw h76
    | some ls =>
    obtain ⟨sz, q1, q2, q3, q4, q5, q6⟩ := hlw
    have r1 : (zup I (h + 4) N) h = I h := zup_ne (by omega)
    have r2 : (zup I (h + 4) N) (h + 1) = I (h + 1) := zup_ne (by omega)
    have r3 : (zup I (h + 4) N) (h + 2) = I (h + 2) := zup_ne (by omega)
    refine zAloadN d_X6_oddsOf_86 rfl rfl (q := 87) rfl ?_
    refine zCallVX d_X6_oddsOf_87 ml_X6_36 k_X6_worth ki_X6_worth ks_X6_worth (sp_X6_worth (d := d - 1) (by omega) hw (sz := sz) (by rw [r1]; exact q1) q3 (ls := ls) (by rw [r2, r3]; exact q4) q5 q6) rfl rfl hw.1 (by decide) rfl (zlt4 hw) (Nat.le_of_ble_eq_true rfl) (by decide) (by omega) zns100 (q := 90) rfl (fun x w' hw' => ?_)
    obtain ⟨rfl, F, rfl⟩ := hw'
    rw [zup_eq]
    refine zIstore d_X6_oddsOf_90 (by decide) rfl (q := 92) rfl ?_
    refine zIconst d_X6_oddsOf_92 (v := 0) ic_0 (q := 93) rfl ?_
    refine zBipush d_X6_oddsOf_93 (v := 12) bc_12 (q := 95) rfl ?_
    refine zIload d_X6_oddsOf_95 rfl (q := 97) rfl ?_
    refine zMin d_X6_oddsOf_97 ml_X6_39 (by omega) (Nat.le_of_ble_eq_true rfl) ⟨Nat.le_refl _, Nat.le_refl _⟩ (q := 100) rfl ?_
    refine zMax d_X6_oddsOf_100 ml_X6_44 (by omega) (Nat.le_of_ble_eq_true rfl) ⟨Nat.le_refl _, Nat.le_refl _⟩ (q := 103) rfl ?_
    refine zIret d_X6_oddsOf_103 rfl rfl rfl ?_
    first
    | exact ⟨_, rfl, clmp _ _ (by rw [zEvL_congr hN6 ls q6]), N, F, rfl⟩
    | exact ⟨_, rfl, clmp _ _ (by rw [hN6 0 (by decide), hN6 1 (by decide), hN6 2 (by decide), hN6 3 (by decide)]), N, I (h + 3), by rw [show zup (zup I (h + 4) N) (h + 3) (I (h + 3)) = zup I (h + 4) N from by rw [← zup_ne (f := I) (k := h + 4) (x := N) (show h + 3 ≠ h + 4 by omega), zup_self]]⟩
  · cases pg with
    | some ls => exact absurd h76 (by obtain ⟨sz, q1, q2, q3, -⟩ := hlw; rw [q1]; exact nI_ne0 q2 (by omega))
    | none =>
    refine zAloadN d_X6_oddsOf_79 rfl rfl (q := 80) rfl ?_
    refine zCallVP d_X6_oddsOf_80 ml_X6_32 k_X6_withoutText ki_X6_withoutText ks_X6_withoutText (sp_X6_withoutText (d := d - 1) (by omega) hw) rfl rfl hw.1 (by decide) rfl (zlt4 hw) (Nat.le_of_ble_eq_true rfl) (by decide) (by omega) zns100 (q := 83) rfl ?_
    rw [zup_eq]
    refine zGoto d_X6_oddsOf_83 (q := 90) (by decide) ?_
    refine zIstore d_X6_oddsOf_90 (by decide) rfl (q := 92) rfl ?_
    refine zIconst d_X6_oddsOf_92 (v := 0) ic_0 (q := 93) rfl ?_
    refine zBipush d_X6_oddsOf_93 (v := 12) bc_12 (q := 95) rfl ?_
    refine zIload d_X6_oddsOf_95 rfl (q := 97) rfl ?_
    refine zMin d_X6_oddsOf_97 ml_X6_39 (by omega) (Nat.le_of_ble_eq_true rfl) ⟨Nat.le_refl _, Nat.le_refl _⟩ (q := 100) rfl ?_
    refine zMax d_X6_oddsOf_100 ml_X6_44 (by omega) (Nat.le_of_ble_eq_true rfl) ⟨Nat.le_refl _, Nat.le_refl _⟩ (q := 103) rfl ?_
    refine zIret d_X6_oddsOf_103 rfl rfl rfl ?_
    first
    | exact ⟨_, rfl, clmp _ _ (by rw [zEvL_congr hN6 ls q6]), N, F, rfl⟩
    | exact ⟨_, rfl, clmp _ _ (by rw [hN6 0 (by decide), hN6 1 (by decide), hN6 2 (by decide), hN6 3 (by decide)]), N, I (h + 3), by rw [show zup (zup I (h + 4) N) (h + 3) (I (h + 3)) = zup I (h + 4) N from by rw [← zup_ne (f := I) (k := h + 4) (x := N) (show h + 3 ≠ h + 4 by omega), zup_self]]⟩
theorem sp_X6_add (hd : 1 ≤ d) (hw : zLwf h) {sz : Nat} (hsz : I h 4 = nI sz) (h128 : sz < 128) {s v : Int32} : zSp g l d 100 m_X6_add [.ref h, .int s, .int v] (zU I L fs) (zV (fun w => w = zU (zup (zup (zup I (h + 1) (zup (I (h + 1)) sz s)) (h + 2) (zup (I (h + 2)) sz v)) h (zup (I h) 4 (nI (sz + 1)))) L fs)) := by
  have e1 : (zup I (h + 1) (zup (I (h + 1)) sz s)) h 4 = nI sz := by rw [zup_ne (by omega)]; exact hsz
  have e2 : (zup (zup I (h + 1) (zup (I (h + 1)) sz s)) (h + 2) (zup ((zup I (h + 1) (zup (I (h + 1)) sz s)) (h + 2)) sz v)) h = I h := by rw [zup_ne (by omega), zup_ne (by omega)]
  refine zSp_of (lv := [(0, .ref h), (1, .int s), (2, .int v)]) k_X6_add rfl (Nat.le_of_ble_eq_true rfl) ?_
  refine zAloadN d_X6_add_0 rfl rfl (q := 1) rfl ?_
  refine zGetI d_X6_add_1 ff_X6_22 hw.1 (zlt4 hw) (q := 4) rfl ?_
  refine zSipush d_X6_add_4 (v := 128) sc_128 (q := 7) rfl ?_
  refine zIcmp_ge d_X6_add_7 (tgt := 40) (q := 10) (by decide) rfl (fun h => absurd h (by rw [hsz]; exact nI_ge (b := 128) h128 (by decide))) (fun h7 => ?_)
  refine zAloadN d_X6_add_10 rfl rfl (q := 11) rfl ?_
  refine zGetR d_X6_add_11 ff_X6_9 hw.1 (zlt4 hw) (zlw0 hw) (q := 14) rfl ?_
  refine zAloadN d_X6_add_14 rfl rfl (q := 15) rfl ?_
  refine zGetI d_X6_add_15 ff_X6_22 hw.1 (zlt4 hw) (q := 18) rfl ?_
  refine zIloadN d_X6_add_18 rfl rfl (q := 19) rfl ?_
  refine zIast d_X6_add_19 hw.2.1 (zlt1 hw) hsz (by omega) (q := 20) rfl ?_
  refine zAloadN d_X6_add_20 rfl rfl (q := 21) rfl ?_
  refine zGetR d_X6_add_21 ff_X6_13 hw.1 (zlt4 hw) (zlw1 hw) (q := 24) rfl ?_
  refine zAloadN d_X6_add_24 rfl rfl (q := 25) rfl ?_
  refine zGetI d_X6_add_25 ff_X6_22 hw.1 (zlt4 hw) (q := 28) rfl ?_
  refine zIloadN d_X6_add_28 rfl rfl (q := 29) rfl ?_
  refine zIast d_X6_add_29 hw.2.2.1 (zlt2 hw) e1 (by omega) (q := 30) rfl ?_
  refine zAloadN d_X6_add_30 rfl rfl (q := 31) rfl ?_
  refine zDup d_X6_add_31 rfl (q := 32) rfl ?_
  refine zGetI d_X6_add_32 ff_X6_22 hw.1 (zlt4 hw) (q := 35) rfl ?_
  refine zIconst d_X6_add_35 (v := 1) ic_1 (q := 36) rfl ?_
  refine zIadd d_X6_add_36 (q := 37) rfl ?_
  refine zPutI d_X6_add_37 ff_X6_22 rfl rfl rfl hw.1 (zlt4 hw) (q := 40) rfl ?_
  rw [e2, hsz, nI_1, zup_ne (f := I) (show h + 2 ≠ h + 1 by omega)]
  refine zVret d_X6_add_40 rfl rfl ?_
  exact ⟨rfl, rfl⟩
theorem sp_X6_leadHere (hd : 1 ≤ d) (hw : zLwf h) {sz : Nat} (hsz : I h 4 = nI sz) (h128 : sz ≤ 128) {p : Nat} (hp : p < sz) : zSp g l d 100 m_X6_leadHere [.ref h, .int (nI p)] (zU I L fs) (zV (fun w => w = zU (zup I (h + 2) (zup (I (h + 2)) p (nI sz))) L fs)) := by
  refine zSp_of (lv := [(0, .ref h), (1, .int (nI p))]) k_X6_leadHere rfl (Nat.le_of_ble_eq_true rfl) ?_
  refine zIloadN d_X6_leadHere_0 rfl rfl (q := 1) rfl ?_
  refine zIf_lt d_X6_leadHere_1 (tgt := 22) (q := 4) (by decide) rfl (fun h => absurd h (nI_pos (by omega))) (fun h1 => ?_)
  refine zIloadN d_X6_leadHere_4 rfl rfl (q := 5) rfl ?_
  refine zAloadN d_X6_leadHere_5 rfl rfl (q := 6) rfl ?_
  refine zGetI d_X6_leadHere_6 ff_X6_22 hw.1 (zlt4 hw) (q := 9) rfl ?_
  refine zIcmp_ge d_X6_leadHere_9 (tgt := 22) (q := 12) (by decide) rfl (fun h => absurd h (by rw [hsz]; exact nI_ge hp (by omega))) (fun h9 => ?_)
  refine zAloadN d_X6_leadHere_12 rfl rfl (q := 13) rfl ?_
  refine zGetR d_X6_leadHere_13 ff_X6_13 hw.1 (zlt4 hw) (zlw1 hw) (q := 16) rfl ?_
  refine zIloadN d_X6_leadHere_16 rfl rfl (q := 17) rfl ?_
  refine zAloadN d_X6_leadHere_17 rfl rfl (q := 18) rfl ?_
  refine zGetI d_X6_leadHere_18 ff_X6_22 hw.1 (zlt4 hw) (q := 21) rfl ?_
  rw [hsz]
  refine zIast d_X6_leadHere_21 hw.2.2.1 (zlt2 hw) rfl (by omega) (q := 22) rfl ?_
  refine zVret d_X6_leadHere_22 rfl rfl ?_
  exact ⟨rfl, rfl⟩
theorem sp_X6_leadNone (hd : 1 ≤ d) (hw : zLwf h) : zSp g l d 100 m_X6_leadHere [.ref h, .int (-1)] (zU I L fs) (zV (fun w => w = zU I L fs)) := by
  refine zSp_of (lv := [(0, .ref h), (1, .int (-1))]) k_X6_leadHere rfl (Nat.le_of_ble_eq_true rfl) ?_
  refine zIloadN d_X6_leadHere_0 rfl rfl (q := 1) rfl ?_
  refine zIf_lt d_X6_leadHere_1 (tgt := 22) (q := 4) (by decide) rfl (fun h1 => ?_) (fun h => absurd (by decide) h)
  refine zVret d_X6_leadHere_22 rfl rfl ?_
  exact ⟨rfl, rfl⟩
end S21

