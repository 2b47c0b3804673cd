theorem d_X11_commonDivisor_0 : decode (zmc m_X11_commonDivisor) 0 = .ok (.iconst 0, 1) := by decide +kernel
theorem d_X11_commonDivisor_1 : decode (zmc m_X11_commonDivisor) 1 = .ok (.istore 4, 2) := by decide +kernel
theorem d_X11_commonDivisor_3 : decode (zmc m_X11_commonDivisor) 3 = .ok (.iload 4, 2) := by decide +kernel
theorem d_X11_commonDivisor_5 : decode (zmc m_X11_commonDivisor) 5 = .ok (.bipush 100, 2) := by decide +kernel
theorem d_X11_commonDivisor_7 : decode (zmc m_X11_commonDivisor) 7 = .ok (.if_icmp .ge 25, 3) := by decide +kernel
theorem d_X11_commonDivisor_10 : decode (zmc m_X11_commonDivisor) 10 = .ok (.lload_n 2, 1) := by decide +kernel
theorem d_X11_commonDivisor_11 : decode (zmc m_X11_commonDivisor) 11 = .ok (.lconst 0, 1) := by decide +kernel
theorem d_X11_commonDivisor_12 : decode (zmc m_X11_commonDivisor) 12 = .ok (.lcmp, 1) := by decide +kernel
theorem d_X11_commonDivisor_13 : decode (zmc m_X11_commonDivisor) 13 = .ok (.ifCond .eq 19, 3) := by decide +kernel
theorem d_X11_commonDivisor_16 : decode (zmc m_X11_commonDivisor) 16 = .ok (.lload_n 0, 1) := by decide +kernel
theorem d_X11_commonDivisor_17 : decode (zmc m_X11_commonDivisor) 17 = .ok (.lload_n 2, 1) := by decide +kernel
theorem d_X11_commonDivisor_18 : decode (zmc m_X11_commonDivisor) 18 = .ok (.lrem, 1) := by decide +kernel
theorem d_X11_commonDivisor_19 : decode (zmc m_X11_commonDivisor) 19 = .ok (.lstore 5, 2) := by decide +kernel
theorem d_X11_commonDivisor_21 : decode (zmc m_X11_commonDivisor) 21 = .ok (.lload_n 2, 1) := by decide +kernel
theorem d_X11_commonDivisor_22 : decode (zmc m_X11_commonDivisor) 22 = .ok (.lstore_n 0, 1) := by decide +kernel
theorem d_X11_commonDivisor_23 : decode (zmc m_X11_commonDivisor) 23 = .ok (.lload 5, 2) := by decide +kernel
theorem d_X11_commonDivisor_25 : decode (zmc m_X11_commonDivisor) 25 = .ok (.lstore_n 2, 1) := by decide +kernel
theorem d_X11_commonDivisor_26 : decode (zmc m_X11_commonDivisor) 26 = .ok (.iinc 4 1, 3) := by decide +kernel
theorem d_X11_commonDivisor_29 : decode (zmc m_X11_commonDivisor) 29 = .ok (.goto (-26), 3) := by decide +kernel
theorem d_X11_commonDivisor_32 : decode (zmc m_X11_commonDivisor) 32 = .ok (.lload_n 0, 1) := by decide +kernel
theorem d_X11_commonDivisor_33 : decode (zmc m_X11_commonDivisor) 33 = .ok (.lreturn, 1) := by decide +kernel
theorem d_X11_flung_0 : decode (zmc m_X11_flung) 0 = .ok (.aload_n 0, 1) := by decide +kernel
theorem d_X11_flung_1 : decode (zmc m_X11_flung) 1 = .ok (.iload_n 1, 1) := by decide +kernel
theorem d_X11_flung_2 : decode (zmc m_X11_flung) 2 = .ok (.invokevirtual 95, 3) := by decide +kernel
theorem d_X11_flung_5 : decode (zmc m_X11_flung) 5 = .ok (.astore_n 3, 1) := by decide +kernel
theorem d_X11_flung_6 : decode (zmc m_X11_flung) 6 = .ok (.aload_n 3, 1) := by decide +kernel
theorem d_X11_flung_7 : decode (zmc m_X11_flung) 7 = .ok (.ifnull 8, 3) := by decide +kernel
theorem d_X11_flung_10 : decode (zmc m_X11_flung) 10 = .ok (.iload_n 2, 1) := by decide +kernel
theorem d_X11_flung_11 : decode (zmc m_X11_flung) 11 = .ok (.iconst (-1), 1) := by decide +kernel
theorem d_X11_flung_12 : decode (zmc m_X11_flung) 12 = .ok (.if_icmp .ge 5, 3) := by decide +kernel
theorem d_X11_flung_15 : decode (zmc m_X11_flung) 15 = .ok (.iconst (-1), 1) := by decide +kernel
theorem d_X11_flung_16 : decode (zmc m_X11_flung) 16 = .ok (.ireturn, 1) := by decide +kernel
theorem d_X11_flung_17 : decode (zmc m_X11_flung) 17 = .ok (.aload_n 3, 1) := by decide +kernel
theorem d_X11_flung_18 : decode (zmc m_X11_flung) 18 = .ok (.invokevirtual 103, 3) := by decide +kernel
theorem d_X11_flung_21 : decode (zmc m_X11_flung) 21 = .ok (.ifCond .ne 8, 3) := by decide +kernel
theorem d_X11_flung_24 : decode (zmc m_X11_flung) 24 = .ok (.aload_n 3, 1) := by decide +kernel
theorem d_X11_flung_25 : decode (zmc m_X11_flung) 25 = .ok (.invokevirtual 159, 3) := by decide +kernel
theorem d_X11_flung_28 : decode (zmc m_X11_flung) 28 = .ok (.ireturn, 1) := by decide +kernel
theorem d_X11_flung_29 : decode (zmc m_X11_flung) 29 = .ok (.aload_n 0, 1) := by decide +kernel
theorem d_X11_flung_30 : decode (zmc m_X11_flung) 30 = .ok (.getfield 42, 3) := by decide +kernel
theorem d_X11_flung_33 : decode (zmc m_X11_flung) 33 = .ok (.aload_n 3, 1) := by decide +kernel
theorem d_X11_flung_34 : decode (zmc m_X11_flung) 34 = .ok (.aload_n 0, 1) := by decide +kernel
theorem d_X11_flung_35 : decode (zmc m_X11_flung) 35 = .ok (.getfield 10, 3) := by decide +kernel
theorem d_X11_flung_38 : decode (zmc m_X11_flung) 38 = .ok (.aload_n 0, 1) := by decide +kernel
theorem d_X11_flung_39 : decode (zmc m_X11_flung) 39 = .ok (.getfield 84, 3) := by decide +kernel
theorem d_X11_flung_42 : decode (zmc m_X11_flung) 42 = .ok (.invokevirtual 163, 3) := by decide +kernel
theorem d_X11_flung_45 : decode (zmc m_X11_flung) 45 = .ok (.iload_n 2, 1) := by decide +kernel
theorem d_X11_flung_46 : decode (zmc m_X11_flung) 46 = .ok (.iconst (-1), 1) := by decide +kernel
theorem d_X11_flung_47 : decode (zmc m_X11_flung) 47 = .ok (.if_icmp .ne 11, 3) := by decide +kernel
theorem d_X11_flung_50 : decode (zmc m_X11_flung) 50 = .ok (.aload_n 0, 1) := by decide +kernel
theorem d_X11_flung_51 : decode (zmc m_X11_flung) 51 = .ok (.getfield 42, 3) := by decide +kernel
theorem d_X11_flung_54 : decode (zmc m_X11_flung) 54 = .ok (.getfield 167, 3) := by decide +kernel
theorem d_X11_flung_57 : decode (zmc m_X11_flung) 57 = .ok (.ireturn, 1) := by decide +kernel
theorem d_X11_flung_58 : decode (zmc m_X11_flung) 58 = .ok (.iload_n 2, 1) := by decide +kernel
theorem d_X11_flung_59 : decode (zmc m_X11_flung) 59 = .ok (.aload_n 0, 1) := by decide +kernel
theorem d_X11_flung_60 : decode (zmc m_X11_flung) 60 = .ok (.getfield 42, 3) := by decide +kernel
theorem d_X11_flung_63 : decode (zmc m_X11_flung) 63 = .ok (.getfield 171, 3) := by decide +kernel
theorem d_X11_flung_66 : decode (zmc m_X11_flung) 66 = .ok (.if_icmp .ge 15, 3) := by decide +kernel
theorem d_X11_flung_69 : decode (zmc m_X11_flung) 69 = .ok (.aload_n 0, 1) := by decide +kernel
theorem d_X11_flung_70 : decode (zmc m_X11_flung) 70 = .ok (.getfield 42, 3) := by decide +kernel
theorem d_X11_flung_73 : decode (zmc m_X11_flung) 73 = .ok (.getfield 174, 3) := by decide +kernel
theorem d_X11_flung_76 : decode (zmc m_X11_flung) 76 = .ok (.iload_n 2, 1) := by decide +kernel
theorem d_X11_flung_77 : decode (zmc m_X11_flung) 77 = .ok (.iaload, 1) := by decide +kernel
theorem d_X11_flung_78 : decode (zmc m_X11_flung) 78 = .ok (.goto 5, 3) := by decide +kernel
theorem d_X11_flung_81 : decode (zmc m_X11_flung) 81 = .ok (.bipush (-2), 2) := by decide +kernel
theorem d_X11_flung_83 : decode (zmc m_X11_flung) 83 = .ok (.ireturn, 1) := by decide +kernel
theorem d_X11_partOf_0 : decode (zmc m_X11_partOf) 0 = .ok (.lload_n 0, 1) := by decide +kernel
theorem d_X11_partOf_1 : decode (zmc m_X11_partOf) 1 = .ok (.lload_n 2, 1) := by decide +kernel
theorem d_X11_partOf_2 : decode (zmc m_X11_partOf) 2 = .ok (.invokestatic 390, 3) := by decide +kernel
theorem d_X11_partOf_5 : decode (zmc m_X11_partOf) 5 = .ok (.lstore 5, 2) := by decide +kernel
theorem d_X11_partOf_7 : decode (zmc m_X11_partOf) 7 = .ok (.lload 5, 2) := by decide +kernel
theorem d_X11_partOf_9 : decode (zmc m_X11_partOf) 9 = .ok (.lconst 0, 1) := by decide +kernel
theorem d_X11_partOf_10 : decode (zmc m_X11_partOf) 10 = .ok (.lcmp, 1) := by decide +kernel
theorem d_X11_partOf_11 : decode (zmc m_X11_partOf) 11 = .ok (.ifCond .ne 7, 3) := by decide +kernel
theorem d_X11_partOf_14 : decode (zmc m_X11_partOf) 14 = .ok (.ldc2_w 178, 3) := by decide +kernel
theorem d_X11_partOf_17 : decode (zmc m_X11_partOf) 17 = .ok (.lreturn, 1) := by decide +kernel
theorem d_X11_partOf_18 : decode (zmc m_X11_partOf) 18 = .ok (.iload 4, 2) := by decide +kernel
theorem d_X11_partOf_20 : decode (zmc m_X11_partOf) 20 = .ok (.ifCond .ne 7, 3) := by decide +kernel
theorem d_X11_partOf_23 : decode (zmc m_X11_partOf) 23 = .ok (.lload_n 0, 1) := by decide +kernel
theorem d_X11_partOf_24 : decode (zmc m_X11_partOf) 24 = .ok (.goto 4, 3) := by decide +kernel
theorem d_X11_partOf_27 : decode (zmc m_X11_partOf) 27 = .ok (.lload_n 2, 1) := by decide +kernel
theorem d_X11_partOf_28 : decode (zmc m_X11_partOf) 28 = .ok (.lload 5, 2) := by decide +kernel
theorem d_X11_partOf_30 : decode (zmc m_X11_partOf) 30 = .ok (.ldiv, 1) := by decide +kernel
theorem d_X11_partOf_31 : decode (zmc m_X11_partOf) 31 = .ok (.lreturn, 1) := by decide +kernel
/-! WHAT A WATCH ANSWERS, PARTS AND PLANS -/
def zGcd : Nat → Int64 → Int64 → Int64
  | 0, a, _ => a
  | n + 1, a, b => if b = 0 then a else zGcd n b (a - a / b * b)
def zPart (a b : Int64) (w : Int32) : Int64 := if zGcd 100 a b = 0 then -9223372036854775808 else (if w = 0 then a else b) / zGcd 100 a b
theorem zlc0 {b : Int64} : lg_cmp b 0 = 0 ↔ b = 0 := lg_cmp_eq b 0
def zMul (O : Nat → Int32) (n : Nat) : Int64 := zfor (fun k s => s * (O k).toInt64) n 0 1
def zTwl (n : Nat) : Int64 := zfor (fun _ s => s * 12) n 0 1
def zSum (O : Nat → Int32) (n : Nat) : Int64 := zfor (fun k s => s + (O k).toInt64) n 0 0
section S34
variable {g : zG} {l : Launch} {d : Nat} {I : Nat → Nat → Int32} {L : Nat → Nat → Int64} {fs : Nat × Nat × Option Nat} {ns nt nh h h2 : Nat} {o : Option Nat}
theorem sp_X11_commonDivisor (hd : 1 ≤ d) {a b : Int64} : zPure g l d m_X11_commonDivisor [.long a, .long b] I L fs (.long (zGcd 100 a b)) := by
  have loop : ∀ i, i ≤ 100 → ∀ (x y : Int64), zGcd (100 - i) x y = zGcd 100 a b → zA g l d m_X11_commonDivisor I L fs 3 [(4, .int (nI i)), (0, .long x), (2, .long y)] (zP (.long (zGcd 100 a b)) (zU I L fs)) := by
    refine zloop 100 (fun i hi ih x y hx => ?_)
    refine zIload d_X11_commonDivisor_3 rfl (q := 5) rfl ?_
    refine zBipush d_X11_commonDivisor_5 (v := 100) bc_100 (q := 7) rfl ?_
    refine zIcmp_ge d_X11_commonDivisor_7 (tgt := 32) (q := 10) (by decide) rfl (fun h7 => ?_) (fun h7 => ?_)
    · have e := nle (b := 100) h7
      rw [show 100 - i = 0 by omega] at hx
      have hx : x = zGcd 100 a b := hx
      refine zLloadN d_X11_commonDivisor_32 rfl rfl (q := 33) rfl ?_
      refine zLret d_X11_commonDivisor_33 rfl rfl ?_
      exact ⟨by rw [hx], rfl⟩
    · have hlt := nnle (b := 100) h7
      rw [show 100 - i = (100 - (i + 1)) + 1 by omega] at hx
      refine zLloadN d_X11_commonDivisor_10 rfl rfl (q := 11) rfl ?_
      refine zLconst d_X11_commonDivisor_11 (v := 0) rfl (q := 12) rfl ?_
      refine zLcmp d_X11_commonDivisor_12 (q := 13) rfl ?_
      refine zIf_eq d_X11_commonDivisor_13 (tgt := 32) (q := 16) (by decide) rfl (fun h13 => ?_) (fun h13 => ?_)
      · have hb : y = 0 := zlc0.mp h13
        have hx : x = zGcd 100 a b := by rw [← hx]; unfold zGcd; exact (if_pos hb).symm
        refine zLloadN d_X11_commonDivisor_32 rfl rfl (q := 33) rfl ?_
        refine zLret d_X11_commonDivisor_33 rfl rfl ?_
        exact ⟨by rw [hx], rfl⟩
      · have hb : ¬ y = 0 := fun e => h13 (zlc0.mpr e)
        have hx : zGcd (100 - (i + 1)) y (x - x / y * y) = zGcd 100 a b := by rw [← hx]; exact (if_neg hb).symm
        refine zLloadN d_X11_commonDivisor_16 rfl rfl (q := 17) rfl ?_
        refine zLloadN d_X11_commonDivisor_17 rfl rfl (q := 18) rfl ?_
        refine zLrem d_X11_commonDivisor_18 hb (q := 19) rfl ?_
        refine zLstore d_X11_commonDivisor_19 (by decide) rfl (q := 21) rfl ?_
        refine zLloadN d_X11_commonDivisor_21 rfl rfl (q := 22) rfl ?_
        refine zLstoreN d_X11_commonDivisor_22 rfl (by decide) rfl (q := 23) rfl ?_
        refine zLload d_X11_commonDivisor_23 rfl (q := 25) rfl ?_
        refine zLstoreN d_X11_commonDivisor_25 rfl (by decide) rfl (q := 26) rfl ?_
        refine zIinc d_X11_commonDivisor_26 rfl (zinc _) (by decide) rfl (q := 29) rfl ?_
        refine zGoto d_X11_commonDivisor_29 (q := 3) (by decide) ?_
        refine zSub [0, 2, 1] rfl ?_
        exact ih hlt _ _ hx
  refine zSp_of (lv := [(0, .long a), (2, .long b)]) k_X11_commonDivisor rfl (Nat.le_of_ble_eq_true rfl) ?_
  refine zIconst d_X11_commonDivisor_0 (v := 0) ic_0 (q := 1) rfl ?_
  refine zIstore d_X11_commonDivisor_1 (by decide) rfl (q := 3) rfl ?_
  refine zSub [0, 1, 2] rfl ?_
  exact loop 0 (Nat.zero_le _) a b rfl
theorem sp_X11_partOf (hd : 2 ≤ d) {a b : Int64} {w : Int32} : zPure g l d m_X11_partOf [.long a, .long b, .int w] I L fs (.long (zPart a b w)) := by
  refine zSp_of (lv := [(0, .long a), (2, .long b), (4, .int w)]) k_X11_partOf rfl (Nat.le_of_ble_eq_true rfl) ?_
  refine zLloadN d_X11_partOf_0 rfl rfl (q := 1) rfl ?_
  refine zLloadN d_X11_partOf_1 rfl rfl (q := 2) rfl ?_
  refine zCallSP d_X11_partOf_2 ml_X11_390 k_X11_commonDivisor kt_X11_commonDivisor (sp_X11_commonDivisor (d := d - 1) (by omega) ) rfl rfl (Nat.le_of_ble_eq_true rfl) (by decide) (by omega) zns100 (q := 5) rfl ?_
  refine zLstore d_X11_partOf_5 (by decide) rfl (q := 7) rfl ?_
  refine zLload d_X11_partOf_7 rfl (q := 9) rfl ?_
  refine zLconst d_X11_partOf_9 (v := 0) rfl (q := 10) rfl ?_
  refine zLcmp d_X11_partOf_10 (q := 11) rfl ?_
  refine zIf_ne d_X11_partOf_11 (tgt := 18) (q := 14) (by decide) rfl (fun h11 => ?_) (fun h11 => ?_)
  · have hg : ¬ zGcd 100 a b = 0 := fun e => h11 (zlc0.mpr e)
    refine zIload d_X11_partOf_18 rfl (q := 20) rfl ?_
    refine zIf_ne d_X11_partOf_20 (tgt := 27) (q := 23) (by decide) rfl (fun h20 => ?_) (fun h20 => ?_)
    · have hw0 : ¬ w = 0 := h20
      refine zLloadN d_X11_partOf_27 rfl rfl (q := 28) rfl ?_
      refine zLload d_X11_partOf_28 rfl (q := 30) rfl ?_
      refine zLdiv d_X11_partOf_30 hg (q := 31) rfl ?_
      refine zLret d_X11_partOf_31 rfl rfl ?_
      exact ⟨by unfold zPart; rw [if_neg hg]; first | rw [if_pos hw0] | rw [if_neg hw0], rfl⟩
    · have hw0 : w = 0 := by simpa using h20
      refine zLloadN d_X11_partOf_23 rfl rfl (q := 24) rfl ?_
      refine zGoto d_X11_partOf_24 (q := 28) (by decide) ?_
      refine zLload d_X11_partOf_28 rfl (q := 30) rfl ?_
      refine zLdiv d_X11_partOf_30 hg (q := 31) rfl ?_
      refine zLret d_X11_partOf_31 rfl rfl ?_
      exact ⟨by unfold zPart; rw [if_neg hg]; first | rw [if_pos hw0] | rw [if_neg hw0], rfl⟩
  · have hg : zGcd 100 a b = 0 := zlc0.mp (by simpa using h11)
    refine zLdc2 d_X11_partOf_14 co_X11_178 (q := 17) rfl ?_
    refine zLret d_X11_partOf_17 rfl rfl ?_
    exact ⟨by unfold zPart; rw [if_pos hg], rfl⟩
theorem sp_X11_flung0 {i w0 : Int32} (hd : 2 ≤ d) (hi : ¬ (0 ≤ i ∧ i < 6)) : zPure g l d m_X11_flung [.ref 0, .int i, .int w0] I L fs (.int (-1)) := by
  refine zSp_of (lv := [(0, .ref 0), (1, .int i), (2, .int w0)]) k_X11_flung rfl (Nat.le_of_ble_eq_true rfl) ?_
  refine zAloadN d_X11_flung_0 rfl rfl (q := 1) rfl ?_
  refine zIloadN d_X11_flung_1 rfl rfl (q := 2) rfl ?_
  refine zCallVP d_X11_flung_2 ml_X11_95 k_X11_shelfAt ki_X11_shelfAt ks_X11_shelfAt (sp_shelf0 (d := d - 1) (by omega) hi) rfl rfl sh_0 (by decide) rfl (by decide) (Nat.le_of_ble_eq_true rfl) (by decide) (by omega) zns100 (q := 5) rfl ?_
  refine zAstoreNN d_X11_flung_5 rfl (by decide) rfl (q := 6) rfl ?_
  refine zAloadNN d_X11_flung_6 rfl rfl (q := 7) rfl ?_
  refine zIfnull0 d_X11_flung_7 (q := 15) (by decide) ?_
  refine zIconst d_X11_flung_15 (v := -1) ic_m1 (q := 16) rfl ?_
  refine zIret d_X11_flung_16 rfl rfl rfl ?_
  exact zPi rfl
theorem sp_X11_flung {k m : Nat} {w0 : Int32} (hd : 7 ≤ d) (hK : zSky I ns nt nh) (hk : k < 6) (hm : I (42 + 2 * k) 2 = nI m) (hm2 : m ≤ 60) (hh : h = 54 ∨ h = 59) {pg : Option (List zLine)} (hlw : zLawOk I h pg) : zSp g l d 100 m_X11_flung [.ref 0, .int (nI k), .int w0] (zU I L (h, h2, o)) (zX (fun x w =>
    (w0 < -1 ∧ x = -1 ∧ w = zU I L (h, h2, o)) ∨ (¬ w0 < -1 ∧ ¬ I (42 + 2 * k) 1 = 0 ∧ x = (if I (42 + 2 * k) 1 = -1 then -11 else -12) ∧ w = zU I L (h, h2, o)) ∨
    (¬ w0 < -1 ∧ I (42 + 2 * k) 1 = 0 ∧ ∃ J, w = zU J L (h, h2, o) ∧ zPJ I L ns (42 + 2 * k) h pg (zPn I L ns nt nh (42 + 2 * k)) J ∧
      x = (if w0 = -1 then (zPst I L ns (42 + 2 * k) (zPn I L ns nt nh (42 + 2 * k))).2.2 else if w0 < nI (zPn I L ns nt nh (42 + 2 * k)) then zPmin I L ns (42 + 2 * k) w0.toNatClampNeg else -2)))) := by
  have hsh := zshf hk
  have hn10 : zPn I L ns nt nh (42 + 2 * k) ≤ 10 := (zrun_spec (zPok I L ns nt nh (42 + 2 * k)) 10 0 (Nat.zero_le _)).2.1
  refine zSp_of (lv := [(0, .ref 0), (1, .int (nI k)), (2, .int w0)]) k_X11_flung rfl (Nat.le_of_ble_eq_true rfl) ?_
  refine zAloadN d_X11_flung_0 rfl rfl (q := 1) rfl ?_
  refine zIloadN d_X11_flung_1 rfl rfl (q := 2) rfl ?_
  refine zCallVP d_X11_flung_2 ml_X11_95 k_X11_shelfAt ki_X11_shelfAt ks_X11_shelfAt (sp_shelf (d := d - 1) (by omega) hk) rfl rfl sh_0 (by decide) rfl (by decide) (Nat.le_of_ble_eq_true rfl) (by decide) (by omega) zns100 (q := 5) rfl ?_
  refine zAstoreN d_X11_flung_5 rfl (by decide) rfl (q := 6) rfl ?_
  refine zAloadN d_X11_flung_6 rfl rfl (q := 7) rfl ?_
  refine zIfnull d_X11_flung_7 (q := 10) rfl ?_
  refine zIloadN d_X11_flung_10 rfl rfl (q := 11) rfl ?_
  refine zIconst d_X11_flung_11 (v := -1) ic_m1 (q := 12) rfl ?_
  refine zIcmp_ge d_X11_flung_12 (tgt := 17) (q := 15) (by decide) rfl (fun h12 => ?_) (fun h12 => ?_)
  · have hc := h12
    refine zAloadN d_X11_flung_17 rfl rfl (q := 18) rfl ?_
    refine zCallVP d_X11_flung_18 ml_X11_103 k_X8_isBytes ki_X8_isBytes ks_X8_isBytes (sp_X8_isBytes (d := d - 1) (by omega) hsh) rfl rfl hsh.1 (by decide) rfl (Nat.lt_of_succ_lt hsh.2.2.1) (Nat.le_of_ble_eq_true rfl) (by decide) (by omega) zns100 (q := 21) rfl ?_
    refine zIf_ne d_X11_flung_21 (tgt := 29) (q := 24) (by decide) rfl (fun h21 => ?_) (fun h21 => ?_)
    · have hb : I (42 + 2 * k) 1 = 0 := bi_n0.mp h21
      refine zAloadN d_X11_flung_29 rfl rfl (q := 30) rfl ?_
      refine zGetR d_X11_flung_30 ff_X11_42 sh_0 (by decide) r_0_4 (q := 33) rfl ?_
      refine zAloadN d_X11_flung_33 rfl rfl (q := 34) rfl ?_
      refine zAloadN d_X11_flung_34 rfl rfl (q := 35) rfl ?_
      refine zGetR d_X11_flung_35 ff_X11_10 sh_0 (by decide) r_0_0 (q := 38) rfl ?_
      refine zAloadN d_X11_flung_38 rfl rfl (q := 39) rfl ?_
      refine zGetR d_X11_flung_39 ff_X11_84 sh_0 (by decide) rfl (q := 42) rfl ?_
      refine zCallVV d_X11_flung_42 ml_X11_163 k_X7_read ki_X7_read ks_X7_read (sp_X7_read (d := d - 1) (by omega) hK hsh (by omega) (by omega) hm hm2 hh hlw) rfl rfl sh_24 (by decide) rfl (by decide) (Nat.le_of_ble_eq_true rfl) (by decide) (by omega) zns100 (q := 45) rfl (fun w' hw' => ?_)
      obtain ⟨J, rfl, hJ⟩ := hw'
      have hJ0 := hJ
      obtain ⟨hJo, ⟨hJ4, hJ5, hJ6⟩, hJf, hJi⟩ := hJ0
      refine zIloadN d_X11_flung_45 rfl rfl (q := 46) rfl ?_
      refine zIconst d_X11_flung_46 (v := -1) ic_m1 (q := 47) rfl ?_
      refine zIcmp_ne d_X11_flung_47 (tgt := 58) (q := 50) (by decide) rfl (fun h47 => ?_) (fun h47 => ?_)
      · have q0 : ¬ w0 = -1 := h47
        refine zIloadN d_X11_flung_58 rfl rfl (q := 59) rfl ?_
        refine zAloadN d_X11_flung_59 rfl rfl (q := 60) rfl ?_
        refine zGetR d_X11_flung_60 ff_X11_42 sh_0 (by decide) r_0_4 (q := 63) rfl ?_
        refine zGetI d_X11_flung_63 ff_X11_171 sh_24 (by decide) (q := 66) rfl ?_
        rw [hJ4]
        refine zIcmp_ge d_X11_flung_66 (tgt := 81) (q := 69) (by decide) rfl (fun h66 => ?_) (fun h66 => ?_)
        · have q1 : ¬ w0 < nI (zPn I L ns nt nh (42 + 2 * k)) := Int32.not_lt.mpr h66
          refine zBipush d_X11_flung_81 (v := -2) bc_m2 (q := 83) rfl ?_
          refine zIret d_X11_flung_83 rfl rfl rfl ?_
          exact ⟨_, rfl, Or.inr (Or.inr ⟨by grind, hb, J, rfl, hJ, by rw [if_neg q0]; first | (rw [if_pos q1, show (nI j).toNatClampNeg = j from zcl_n (by omega)]; exact (hJi j hj).2.1) | rw [if_neg q1]⟩)⟩
        · have q1 : w0 < nI (zPn I L ns nt nh (42 + 2 * k)) := Int32.not_le.mp h66
          obtain ⟨j, hj, rfl⟩ := zn1 (x := w0) (n := zPn I L ns nt nh (42 + 2 * k)) (by omega) (by grind) q1
          refine zAloadN d_X11_flung_69 rfl rfl (q := 70) rfl ?_
          refine zGetR d_X11_flung_70 ff_X11_42 sh_0 (by decide) r_0_4 (q := 73) rfl ?_
          refine zGetR d_X11_flung_73 ff_X11_174 sh_24 (by decide) r_24_1 (q := 76) rfl ?_
          refine zIloadN d_X11_flung_76 rfl rfl (q := 77) rfl ?_
          refine zIald d_X11_flung_77 sh_26 (by decide) rfl (by omega) (q := 78) rfl ?_
          refine zGoto d_X11_flung_78 (q := 83) (by decide) ?_
          refine zIret d_X11_flung_83 rfl rfl rfl ?_
          exact ⟨_, rfl, Or.inr (Or.inr ⟨by grind, hb, J, rfl, hJ, by rw [if_neg q0]; first | (rw [if_pos q1, show (nI j).toNatClampNeg = j from zcl_n (by omega)]; exact (hJi j hj).2.1) | rw [if_neg q1]⟩)⟩
      · have q0 : w0 = -1 := by simpa using h47
        refine zAloadN d_X11_flung_50 rfl rfl (q := 51) rfl ?_
        refine zGetR d_X11_flung_51 ff_X11_42 sh_0 (by decide) r_0_4 (q := 54) rfl ?_
        refine zGetI d_X11_flung_54 ff_X11_167 sh_24 (by decide) (q := 57) rfl ?_
        refine zIret d_X11_flung_57 rfl rfl rfl ?_
        exact ⟨_, rfl, Or.inr (Or.inr ⟨by grind, hb, J, rfl, hJ, by rw [if_pos q0]; exact hJ5⟩)⟩
    · have hb : ¬ I (42 + 2 * k) 1 = 0 := bi_0.mp (by simpa using h21)
      refine zAloadN d_X11_flung_24 rfl rfl (q := 25) rfl ?_
      refine zCallVP d_X11_flung_25 ml_X11_159 k_X8_refusal ki_X8_refusal ks_X8_refusal (sp_X8_refusal (d := d - 1) (by omega) hsh) rfl rfl hsh.1 (by decide) rfl (Nat.lt_of_succ_lt hsh.2.2.1) (Nat.le_of_ble_eq_true rfl) (by decide) (by omega) zns100 (q := 28) rfl ?_
      refine zIret d_X11_flung_28 rfl rfl rfl ?_
      exact ⟨_, rfl, Or.inr (Or.inl ⟨by grind, hb, rfl, rfl⟩)⟩
  · have hc := h12
    refine zIconst d_X11_flung_15 (v := -1) ic_m1 (q := 16) rfl ?_
    refine zIret d_X11_flung_16 rfl rfl rfl ?_
    exact ⟨_, rfl, Or.inl ⟨by grind, rfl, rfl⟩⟩
end S34

