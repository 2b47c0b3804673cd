theorem d_X12_addStep_0 : decode (zmc m_X12_addStep) 0 = .ok (.aload_n 0, 1) := by decide +kernel
theorem d_X12_addStep_1 : decode (zmc m_X12_addStep) 1 = .ok (.getfield 58, 3) := by decide +kernel
theorem d_X12_addStep_4 : decode (zmc m_X12_addStep) 4 = .ok (.sipush 130, 3) := by decide +kernel
theorem d_X12_addStep_7 : decode (zmc m_X12_addStep) 7 = .ok (.aload_n 0, 1) := by decide +kernel
theorem d_X12_addStep_8 : decode (zmc m_X12_addStep) 8 = .ok (.getfield 197, 3) := by decide +kernel
theorem d_X12_addStep_11 : decode (zmc m_X12_addStep) 11 = .ok (.iadd, 1) := by decide +kernel
theorem d_X12_addStep_12 : decode (zmc m_X12_addStep) 12 = .ok (.iload_n 1, 1) := by decide +kernel
theorem d_X12_addStep_13 : decode (zmc m_X12_addStep) 13 = .ok (.i2b, 1) := by decide +kernel
theorem d_X12_addStep_14 : decode (zmc m_X12_addStep) 14 = .ok (.bastore, 1) := by decide +kernel
theorem d_X12_addStep_15 : decode (zmc m_X12_addStep) 15 = .ok (.aload_n 0, 1) := by decide +kernel
theorem d_X12_addStep_16 : decode (zmc m_X12_addStep) 16 = .ok (.getfield 61, 3) := by decide +kernel
theorem d_X12_addStep_19 : decode (zmc m_X12_addStep) 19 = .ok (.sipush 130, 3) := by decide +kernel
theorem d_X12_addStep_22 : decode (zmc m_X12_addStep) 22 = .ok (.aload_n 0, 1) := by decide +kernel
theorem d_X12_addStep_23 : decode (zmc m_X12_addStep) 23 = .ok (.getfield 197, 3) := by decide +kernel
theorem d_X12_addStep_26 : decode (zmc m_X12_addStep) 26 = .ok (.iadd, 1) := by decide +kernel
theorem d_X12_addStep_27 : decode (zmc m_X12_addStep) 27 = .ok (.iload_n 2, 1) := by decide +kernel
theorem d_X12_addStep_28 : decode (zmc m_X12_addStep) 28 = .ok (.iastore, 1) := by decide +kernel
theorem d_X12_addStep_29 : decode (zmc m_X12_addStep) 29 = .ok (.aload_n 0, 1) := by decide +kernel
theorem d_X12_addStep_30 : decode (zmc m_X12_addStep) 30 = .ok (.dup, 1) := by decide +kernel
theorem d_X12_addStep_31 : decode (zmc m_X12_addStep) 31 = .ok (.getfield 197, 3) := by decide +kernel
theorem d_X12_addStep_34 : decode (zmc m_X12_addStep) 34 = .ok (.iconst 1, 1) := by decide +kernel
theorem d_X12_addStep_35 : decode (zmc m_X12_addStep) 35 = .ok (.iadd, 1) := by decide +kernel
theorem d_X12_addStep_36 : decode (zmc m_X12_addStep) 36 = .ok (.putfield 197, 3) := by decide +kernel
theorem d_X12_addStep_39 : decode (zmc m_X12_addStep) 39 = .ok (.return_, 1) := by decide +kernel
theorem d_X12_look_0 : decode (zmc m_X12_look) 0 = .ok (.aload_n 0, 1) := by decide +kernel
theorem d_X12_look_1 : decode (zmc m_X12_look) 1 = .ok (.getfield 191, 3) := by decide +kernel
theorem d_X12_look_4 : decode (zmc m_X12_look) 4 = .ok (.aload_n 0, 1) := by decide +kernel
theorem d_X12_look_5 : decode (zmc m_X12_look) 5 = .ok (.getfield 188, 3) := by decide +kernel
theorem d_X12_look_8 : decode (zmc m_X12_look) 8 = .ok (.if_icmp .ge 15, 3) := by decide +kernel
theorem d_X12_look_11 : decode (zmc m_X12_look) 11 = .ok (.aload_n 0, 1) := by decide +kernel
theorem d_X12_look_12 : decode (zmc m_X12_look) 12 = .ok (.getfield 54, 3) := by decide +kernel
theorem d_X12_look_15 : decode (zmc m_X12_look) 15 = .ok (.aload_n 0, 1) := by decide +kernel
theorem d_X12_look_16 : decode (zmc m_X12_look) 16 = .ok (.getfield 191, 3) := by decide +kernel
theorem d_X12_look_19 : decode (zmc m_X12_look) 19 = .ok (.baload, 1) := by decide +kernel
theorem d_X12_look_20 : decode (zmc m_X12_look) 20 = .ok (.goto 4, 3) := by decide +kernel
theorem d_X12_look_23 : decode (zmc m_X12_look) 23 = .ok (.iconst (-1), 1) := by decide +kernel
theorem d_X12_look_24 : decode (zmc m_X12_look) 24 = .ok (.ireturn, 1) := by decide +kernel
theorem d_X12_nameOf_0 : decode (zmc m_X12_nameOf) 0 = .ok (.iload_n 0, 1) := by decide +kernel
theorem d_X12_nameOf_1 : decode (zmc m_X12_nameOf) 1 = .ok (.lookupswitch 71 #[(97, 67), (98, 63), (102, 59), (109, 69), (115, 61), (121, 65)], 59) := by decide +kernel
theorem d_X12_nameOf_60 : decode (zmc m_X12_nameOf) 60 = .ok (.iconst 0, 1) := by decide +kernel
theorem d_X12_nameOf_61 : decode (zmc m_X12_nameOf) 61 = .ok (.ireturn, 1) := by decide +kernel
theorem d_X12_nameOf_62 : decode (zmc m_X12_nameOf) 62 = .ok (.iconst 1, 1) := by decide +kernel
theorem d_X12_nameOf_63 : decode (zmc m_X12_nameOf) 63 = .ok (.ireturn, 1) := by decide +kernel
theorem d_X12_nameOf_64 : decode (zmc m_X12_nameOf) 64 = .ok (.iconst 2, 1) := by decide +kernel
theorem d_X12_nameOf_65 : decode (zmc m_X12_nameOf) 65 = .ok (.ireturn, 1) := by decide +kernel
theorem d_X12_nameOf_66 : decode (zmc m_X12_nameOf) 66 = .ok (.iconst 3, 1) := by decide +kernel
theorem d_X12_nameOf_67 : decode (zmc m_X12_nameOf) 67 = .ok (.ireturn, 1) := by decide +kernel
theorem d_X12_nameOf_68 : decode (zmc m_X12_nameOf) 68 = .ok (.iconst 4, 1) := by decide +kernel
theorem d_X12_nameOf_69 : decode (zmc m_X12_nameOf) 69 = .ok (.ireturn, 1) := by decide +kernel
theorem d_X12_nameOf_70 : decode (zmc m_X12_nameOf) 70 = .ok (.iconst 5, 1) := by decide +kernel
theorem d_X12_nameOf_71 : decode (zmc m_X12_nameOf) 71 = .ok (.ireturn, 1) := by decide +kernel
theorem d_X12_nameOf_72 : decode (zmc m_X12_nameOf) 72 = .ok (.iconst (-1), 1) := by decide +kernel
theorem d_X12_nameOf_73 : decode (zmc m_X12_nameOf) 73 = .ok (.ireturn, 1) := by decide +kernel
theorem d_X12_opens_0 : decode (zmc m_X12_opens) 0 = .ok (.aload_n 0, 1) := by decide +kernel
theorem d_X12_opens_1 : decode (zmc m_X12_opens) 1 = .ok (.getfield 200, 3) := by decide +kernel
theorem d_X12_opens_4 : decode (zmc m_X12_opens) 4 = .ok (.bipush 6, 2) := by decide +kernel
theorem d_X12_opens_6 : decode (zmc m_X12_opens) 6 = .ok (.if_icmp .ne 9, 3) := by decide +kernel
theorem d_X12_opens_9 : decode (zmc m_X12_opens) 9 = .ok (.aload_n 0, 1) := by decide +kernel
theorem d_X12_opens_10 : decode (zmc m_X12_opens) 10 = .ok (.invokevirtual 203, 3) := by decide +kernel
theorem d_X12_opens_13 : decode (zmc m_X12_opens) 13 = .ok (.iconst 0, 1) := by decide +kernel
theorem d_X12_opens_14 : decode (zmc m_X12_opens) 14 = .ok (.ireturn, 1) := by decide +kernel
theorem d_X12_opens_15 : decode (zmc m_X12_opens) 15 = .ok (.aload_n 0, 1) := by decide +kernel
theorem d_X12_opens_16 : decode (zmc m_X12_opens) 16 = .ok (.dup, 1) := by decide +kernel
theorem d_X12_opens_17 : decode (zmc m_X12_opens) 17 = .ok (.getfield 200, 3) := by decide +kernel
theorem d_X12_opens_20 : decode (zmc m_X12_opens) 20 = .ok (.iconst 1, 1) := by decide +kernel
theorem d_X12_opens_21 : decode (zmc m_X12_opens) 21 = .ok (.iadd, 1) := by decide +kernel
theorem d_X12_opens_22 : decode (zmc m_X12_opens) 22 = .ok (.putfield 200, 3) := by decide +kernel
theorem d_X12_opens_25 : decode (zmc m_X12_opens) 25 = .ok (.aload_n 0, 1) := by decide +kernel
theorem d_X12_opens_26 : decode (zmc m_X12_opens) 26 = .ok (.dup, 1) := by decide +kernel
theorem d_X12_opens_27 : decode (zmc m_X12_opens) 27 = .ok (.getfield 191, 3) := by decide +kernel
theorem d_X12_opens_30 : decode (zmc m_X12_opens) 30 = .ok (.iconst 1, 1) := by decide +kernel
theorem d_X12_opens_31 : decode (zmc m_X12_opens) 31 = .ok (.iadd, 1) := by decide +kernel
theorem d_X12_opens_32 : decode (zmc m_X12_opens) 32 = .ok (.putfield 191, 3) := by decide +kernel
theorem d_X12_opens_35 : decode (zmc m_X12_opens) 35 = .ok (.iconst 1, 1) := by decide +kernel
theorem d_X12_opens_36 : decode (zmc m_X12_opens) 36 = .ok (.ireturn, 1) := by decide +kernel
theorem d_X12_wrong_0 : decode (zmc m_X12_wrong) 0 = .ok (.aload_n 0, 1) := by decide +kernel
theorem d_X12_wrong_1 : decode (zmc m_X12_wrong) 1 = .ok (.getfield 194, 3) := by decide +kernel
theorem d_X12_wrong_4 : decode (zmc m_X12_wrong) 4 = .ok (.ifCond .ge 11, 3) := by decide +kernel
theorem d_X12_wrong_7 : decode (zmc m_X12_wrong) 7 = .ok (.aload_n 0, 1) := by decide +kernel
theorem d_X12_wrong_8 : decode (zmc m_X12_wrong) 8 = .ok (.aload_n 0, 1) := by decide +kernel
theorem d_X12_wrong_9 : decode (zmc m_X12_wrong) 9 = .ok (.getfield 191, 3) := by decide +kernel
theorem d_X12_wrong_12 : decode (zmc m_X12_wrong) 12 = .ok (.putfield 194, 3) := by decide +kernel
theorem d_X12_wrong_15 : decode (zmc m_X12_wrong) 15 = .ok (.return_, 1) := by decide +kernel
/-! THE REFERENCE READS A TEXT: its first steps -/
def yFrP (I J : Nat → Nat → Int32) : Prop := (∀ a, a ≠ 64 → a ≠ 80 → a ≠ 81 → J a = I a) ∧ (∀ k, (k < 22 ∨ 25 < k) → J 64 k = I 64 k) ∧ ∀ i, i < 130 → J 80 i = I 80 i ∧ J 81 i = I 81 i
/-- no fault yet: at place p, o open, n steps laid -/
def yOkS (I J : Nat → Nat → Int32) (m p o n : Nat) : Prop := yFrP I J ∧ (J 64 22 = nI p ∧ J 64 23 = -1 ∧ J 64 24 = nI o ∧ J 64 25 = nI n) ∧ n ≤ p ∧ p ≤ m
/-- a fault at r, come to from place p with n steps -/
def yBdS (I J : Nat → Nat → Int32) (m p n r : Nat) : Prop := yFrP I J ∧ (J 64 23 = nI r ∧ r ≤ m) ∧ ∃ p' n', J 64 22 = nI p' ∧ J 64 25 = nI n' ∧ p ≤ p' ∧ p' ≤ m ∧ n' + p ≤ n + p' + 1
/-- steps laid behind n -/
def yLy (J J' : Nat → Nat → Int32) (n : Nat) (c : List zSt1) : Prop := (∀ i, i < 130 + n → J' 80 i = J 80 i ∧ J' 81 i = J 81 i) ∧ zLr (J' 80) (J' 81) (130 + n) c
abbrev yDg (T : Nat → Int32) (m q : Nat) : Prop := 48 ≤ zAt T m q ∧ zAt T m q ≤ 57
def yR (I J : Nat → Nat → Int32) (T : Nat → Int32) (m p o n : Nat) (r : zRr) (J' : Nat → Nat → Int32) : Prop :=
  (∃ c, r.2 = some c ∧ yOkS I J' m r.1 o (n + c.length) ∧ yLy J J' n c) ∨ ((r.2 = none ∨ yDg T m r.1) ∧ yBdS I J' m p n r.1)
theorem yLy_nil {J : Nat → Nat → Int32} {n : Nat} : yLy J J n [] := ⟨fun _ _ => ⟨rfl, rfl⟩, fun i x hx => by simp at hx⟩
theorem yLy_app {J J1 J2 : Nat → Nat → Int32} {n : Nat} {a b : List zSt1} (h1 : yLy J J1 n a) (h2 : yLy J1 J2 (n + a.length) b) : yLy J J2 n (a ++ b) := by
  refine ⟨fun i hi => ?_, fun i x hx => ?_⟩
  · obtain ⟨q1, q2⟩ := h1.1 i hi
    obtain ⟨q3, q4⟩ := h2.1 i (by omega)
    exact ⟨q3.trans q1, q4.trans q2⟩
  · by_cases hi : i < a.length
    · rw [List.getElem?_append_left hi] at hx
      obtain ⟨q1, q2⟩ := h1.2 i x hx
      obtain ⟨q3, q4⟩ := h2.1 (130 + n + i) (by omega)
      exact ⟨q3.trans q1, q4.trans q2⟩
    · rw [List.getElem?_append_right (by omega)] at hx
      have := h2.2 (i - a.length) x hx
      rw [show 130 + (n + a.length) + (i - a.length) = 130 + n + i by omega] at this
      exact this
theorem yFrP_refl {I : Nat → Nat → Int32} : yFrP I I := ⟨fun _ _ _ _ => rfl, fun _ _ => rfl, fun _ _ => ⟨rfl, rfl⟩⟩
theorem yFrP_fld {I J : Nat → Nat → Int32} {k : Nat} {x : Int32} (h : yFrP I J) (hk : 22 ≤ k ∧ k ≤ 25) : yFrP I (zup J 64 (zup (J 64) k x)) :=
  ⟨fun a h1 h2 h3 => by rw [zup_ne h1]; exact h.1 a h1 h2 h3, fun i hi => by rw [zup_eq, zup_ne (by omega)]; exact h.2.1 i hi, fun i hi => h.2.2 i hi⟩
theorem yFrP_add {I J : Nat → Nat → Int32} {n : Nat} {a b x : Int32} (h : yFrP I J) : yFrP I (zup (zup (zup J 80 (zup (J 80) (130 + n) a)) 81 (zup (J 81) (130 + n) b)) 64 (zup (J 64) 25 x)) :=
  ⟨fun i h1 h2 h3 => by rw [zup_ne h1, zup_ne h3, zup_ne h2]; exact h.1 i h1 h2 h3, fun i hi => by rw [zup_eq, zup_ne (by omega)]; exact h.2.1 i hi,
   fun i hi => ⟨by show (zup (J 80) (130 + n) a) i = _; rw [zup_ne (by omega)]; exact (h.2.2 i hi).1, by show (zup (J 81) (130 + n) b) i = _; rw [zup_ne (by omega)]; exact (h.2.2 i hi).2⟩⟩
/-- the world behind one more step -/
def yAdd (J : Nat → Nat → Int32) (n : Nat) (a b : Int32) : Nat → Nat → Int32 := zup (zup (zup J 80 (zup (J 80) (130 + n) a)) 81 (zup (J 81) (130 + n) b)) 64 (zup (J 64) 25 (nI (n + 1)))
theorem yAdd_ok {I J : Nat → Nat → Int32} {m p o n : Nat} {a b : Int32} (h : yFrP I J ∧ (J 64 22 = nI p ∧ J 64 23 = -1 ∧ J 64 24 = nI o ∧ J 64 25 = nI n)) (hn : n + 1 ≤ p) (hp : p ≤ m) : yOkS I (yAdd J n a b) m p o (n + 1) :=
  ⟨yFrP_add h.1, ⟨h.2.1, h.2.2.1, h.2.2.2.1, rfl⟩, hn, hp⟩
theorem yAdd_ly {J : Nat → Nat → Int32} {n : Nat} {s a b : Int32} (ha : a = zRc s) : yLy J (yAdd J n a b) n [(s, b)] := by
  refine ⟨fun i hi => ⟨?_, ?_⟩, fun i x hx => ?_⟩
  · show (zup (J 80) (130 + n) a) i = _; rw [zup_ne (by omega)]
  · show (zup (J 81) (130 + n) b) i = _; rw [zup_ne (by omega)]
  · cases i with
    | zero =>
      cases hx
      refine ⟨?_, ?_⟩
      · show (zup (J 80) (130 + n) a) (130 + n) = _; rw [zup_eq]; exact ha
      · show (zup (J 81) (130 + n) b) (130 + n) = _; rw [zup_eq]
    | succ i => simp at hx
section S67
variable {g : zG} {l : Launch} {d : Nat} {I J : Nat → Nat → Int32} {L : Nat → Nat → Int64} {fs : Nat × Nat × Option Nat} {m p o n : Nat}
theorem sp_X12_look (hd : 1 ≤ d) {T : Nat → Int32} (hT : J 79 = T) (h21 : J 64 21 = nI m) (hm : m ≤ 120) (h22 : J 64 22 = nI p) (hp : p < 2 ^ 31) : zPure g l d m_X12_look [.ref 64] J L fs (.int (zAt T m p)) := by
  refine zSp_of (lv := [(0, .ref 64)]) k_X12_look rfl (Nat.le_of_ble_eq_true rfl) ?_
  refine zAloadN d_X12_look_0 rfl rfl (q := 1) rfl ?_
  refine zGetI d_X12_look_1 ff_X12_191 sh_64 (by decide) (q := 4) rfl ?_
  refine zAloadN d_X12_look_4 rfl rfl (q := 5) rfl ?_
  refine zGetI d_X12_look_5 ff_X12_188 sh_64 (by decide) (q := 8) rfl ?_
  rw [h22, h21]
  refine zIcmp_ge d_X12_look_8 (tgt := 23) (q := 11) (by decide) rfl (fun h8 => ?_) (fun h8 => ?_)
  · have c : ¬ p < m := Nat.not_lt.mpr (nle h8)
    refine zIconst d_X12_look_23 (v := -1) ic_m1 (q := 24) rfl ?_
    refine zIret d_X12_look_24 rfl rfl rfl ?_
    unfold zAt
    first
    | exact zPi (by rw [if_neg c])
    | exact zPi (by rw [if_pos c, hT])
  · have c : p < m := nnle h8
    refine zAloadN d_X12_look_11 rfl rfl (q := 12) rfl ?_
    refine zGetR d_X12_look_12 ff_X12_54 sh_64 (by decide) r_64_20 (q := 15) rfl ?_
    refine zAloadN d_X12_look_15 rfl rfl (q := 16) rfl ?_
    refine zGetI d_X12_look_16 ff_X12_191 sh_64 (by decide) (q := 19) rfl ?_
    refine zBald d_X12_look_19 sh_79 (by decide) h22 (by omega) (q := 20) rfl ?_
    refine zGoto d_X12_look_20 (q := 24) (by decide) ?_
    refine zIret d_X12_look_24 rfl rfl rfl ?_
    unfold zAt
    first
    | exact zPi (by rw [if_neg c])
    | exact zPi (by rw [if_pos c, hT])
theorem sp_X12_nameOf (hd : 1 ≤ d) {c : Int32} : zPure g l d m_X12_nameOf [.int c] J L fs (.int (zNm c)) := by
  refine zSp_of (lv := [(0, .int c)]) k_X12_nameOf rfl (Nat.le_of_ble_eq_true rfl) ?_
  refine zIloadN d_X12_nameOf_0 rfl rfl (q := 1) rfl ?_
  rcases Decidable.em (c = (97 : Int32)) with s1_97 | s1_97
  · refine zLook d_X12_nameOf_1 (by decide) (off := 67) (by rw [s1_97]; decide) (q := 68) (by decide) ?_
    refine zIconst d_X12_nameOf_68 (v := 4) ic_4 (q := 69) rfl ?_
    refine zIret d_X12_nameOf_69 rfl rfl rfl ?_
    exact zPi (by rw [s1_97]; rfl)
  rcases Decidable.em (c = (98 : Int32)) with s1_98 | s1_98
  · refine zLook d_X12_nameOf_1 (by decide) (off := 63) (by rw [s1_98]; decide) (q := 64) (by decide) ?_
    refine zIconst d_X12_nameOf_64 (v := 2) ic_2 (q := 65) rfl ?_
    refine zIret d_X12_nameOf_65 rfl rfl rfl ?_
    exact zPi (by rw [s1_98]; rfl)
  rcases Decidable.em (c = (102 : Int32)) with s1_102 | s1_102
  · refine zLook d_X12_nameOf_1 (by decide) (off := 59) (by rw [s1_102]; decide) (q := 60) (by decide) ?_
    refine zIconst d_X12_nameOf_60 (v := 0) ic_0 (q := 61) rfl ?_
    refine zIret d_X12_nameOf_61 rfl rfl rfl ?_
    exact zPi (by rw [s1_102]; rfl)
  rcases Decidable.em (c = (109 : Int32)) with s1_109 | s1_109
  · refine zLook d_X12_nameOf_1 (by decide) (off := 69) (by rw [s1_109]; decide) (q := 70) (by decide) ?_
    refine zIconst d_X12_nameOf_70 (v := 5) ic_5 (q := 71) rfl ?_
    refine zIret d_X12_nameOf_71 rfl rfl rfl ?_
    exact zPi (by rw [s1_109]; rfl)
  rcases Decidable.em (c = (115 : Int32)) with s1_115 | s1_115
  · refine zLook d_X12_nameOf_1 (by decide) (off := 61) (by rw [s1_115]; decide) (q := 62) (by decide) ?_
    refine zIconst d_X12_nameOf_62 (v := 1) ic_1 (q := 63) rfl ?_
    refine zIret d_X12_nameOf_63 rfl rfl rfl ?_
    exact zPi (by rw [s1_115]; rfl)
  rcases Decidable.em (c = (121 : Int32)) with s1_121 | s1_121
  · refine zLook d_X12_nameOf_1 (by decide) (off := 65) (by rw [s1_121]; decide) (q := 66) (by decide) ?_
    refine zIconst d_X12_nameOf_66 (v := 3) ic_3 (q := 67) rfl ?_
    refine zIret d_X12_nameOf_67 rfl rfl rfl ?_
    exact zPi (by rw [s1_121]; rfl)
  refine zLook d_X12_nameOf_1 (by decide) (off := 71) (by show Op.lookupswitch.offset [(97, 67), (98, 63), (102, 59), (109, 69), (115, 61), (121, 65)] 71 _ = _; rw [lv_osw s1_97 (by decide), lv_osw s1_98 (by decide), lv_osw s1_102 (by decide), lv_osw s1_109 (by decide), lv_osw s1_115 (by decide), lv_osw s1_121 (by decide)]; rfl) (q := 72) (by decide) ?_
  refine zIconst d_X12_nameOf_72 (v := -1) ic_m1 (q := 73) rfl ?_
  refine zIret d_X12_nameOf_73 rfl rfl rfl ?_
  exact zPi (by unfold zNm; rw [if_neg s1_97, if_neg s1_98, if_neg s1_102, if_neg s1_109, if_neg s1_115, if_neg s1_121])
theorem sp_X12_addStep (hd : 1 ≤ d) (h25 : J 64 25 = nI n) (hn : n < 130) {a b : Int32} (ha : a.toInt8.toInt32.toInt8.toInt32 = a) : zSp g l d 100 m_X12_addStep [.ref 64, .int a, .int b] (zU J L fs) (zV (fun w => w = zU (yAdd J n a b) L fs)) := by
  have e1 : (130 : Int32) + nI n = nI (130 + n) := nI_add 130 n
  have e2 : J 64 25 + 1 = nI (n + 1) := by rw [h25, nI_1]
  refine zSp_of (lv := [(0, .ref 64), (1, .int a), (2, .int b)]) k_X12_addStep rfl (Nat.le_of_ble_eq_true rfl) ?_
  refine zAloadN d_X12_addStep_0 rfl rfl (q := 1) rfl ?_
  refine zGetR d_X12_addStep_1 ff_X12_58 sh_64 (by decide) r_64_26 (q := 4) rfl ?_
  refine zSipush d_X12_addStep_4 (v := 130) sc_130 (q := 7) rfl ?_
  refine zAloadN d_X12_addStep_7 rfl rfl (q := 8) rfl ?_
  refine zGetI d_X12_addStep_8 ff_X12_197 sh_64 (by decide) (q := 11) rfl ?_
  rw [h25]
  refine zIadd d_X12_addStep_11 (q := 12) rfl ?_
  refine zIloadN d_X12_addStep_12 rfl rfl (q := 13) rfl ?_
  refine zI2b d_X12_addStep_13 (q := 14) rfl ?_
  refine zBast d_X12_addStep_14 sh_80 (by decide) e1 (by omega) (q := 15) rfl ?_
  rw [ha]
  refine zAloadN d_X12_addStep_15 rfl rfl (q := 16) rfl ?_
  refine zGetR d_X12_addStep_16 ff_X12_61 sh_64 (by decide) r_64_27 (q := 19) rfl ?_
  refine zSipush d_X12_addStep_19 (v := 130) sc_130 (q := 22) rfl ?_
  refine zAloadN d_X12_addStep_22 rfl rfl (q := 23) rfl ?_
  refine zGetI d_X12_addStep_23 ff_X12_197 sh_64 (by decide) (q := 26) rfl ?_
  rw [show (zup J 80 (zup (J 80) (130 + n) a)) 64 25 = nI n from h25]
  refine zIadd d_X12_addStep_26 (q := 27) rfl ?_
  refine zIloadN d_X12_addStep_27 rfl rfl (q := 28) rfl ?_
  refine zIast d_X12_addStep_28 sh_81 (by decide) e1 (by omega) (q := 29) rfl ?_
  refine zAloadN d_X12_addStep_29 rfl rfl (q := 30) rfl ?_
  refine zDup d_X12_addStep_30 rfl (q := 31) rfl ?_
  refine zGetI d_X12_addStep_31 ff_X12_197 sh_64 (by decide) (q := 34) rfl ?_
  refine zIconst d_X12_addStep_34 (v := 1) ic_1 (q := 35) rfl ?_
  refine zIadd d_X12_addStep_35 (q := 36) rfl ?_
  rw [show (zup (zup J 80 (zup (J 80) (130 + n) a)) 81 (zup ((zup J 80 (zup (J 80) (130 + n) a)) 81) (130 + n) b)) 64 25 + 1 = nI (n + 1) from e2]
  refine zPutI d_X12_addStep_36 ff_X12_197 rfl rfl rfl sh_64 (by decide) (q := 39) rfl ?_
  refine zVret d_X12_addStep_39 rfl rfl ?_
  exact ⟨rfl, rfl⟩
theorem sp_X12_wrong (hd : 1 ≤ d) (h23 : J 64 23 = -1) : zSp g l d 100 m_X12_wrong [.ref 64] (zU J L fs) (zV (fun w => w = zU (zup J 64 (zup (J 64) 23 (J 64 22))) L fs)) := by
  refine zSp_of (lv := [(0, .ref 64)]) k_X12_wrong rfl (Nat.le_of_ble_eq_true rfl) ?_
  refine zAloadN d_X12_wrong_0 rfl rfl (q := 1) rfl ?_
  refine zGetI d_X12_wrong_1 ff_X12_194 sh_64 (by decide) (q := 4) rfl ?_
  refine zIf_ge d_X12_wrong_4 (tgt := 15) (q := 7) (by decide) rfl (fun h => absurd h (by rw [h23]; decide)) (fun h4 => ?_)
  refine zAloadN d_X12_wrong_7 rfl rfl (q := 8) rfl ?_
  refine zAloadN d_X12_wrong_8 rfl rfl (q := 9) rfl ?_
  refine zGetI d_X12_wrong_9 ff_X12_191 sh_64 (by decide) (q := 12) rfl ?_
  refine zPutI d_X12_wrong_12 ff_X12_194 rfl rfl rfl sh_64 (by decide) (q := 15) rfl ?_
  refine zVret d_X12_wrong_15 rfl rfl ?_
  exact ⟨rfl, rfl⟩
theorem sp_X12_opens (hd : 2 ≤ d) (h : yOkS I J m p o n) (ho : o ≤ 6) : zSp g l d 100 m_X12_opens [.ref 64] (zU J L fs) (zX (fun x w => (o = 6 ∧ x = 0 ∧ w = zU (zup J 64 (zup (J 64) 23 (nI p))) L fs) ∨ (o < 6 ∧ x = 1 ∧ w = zU (zup J 64 (zup (zup (J 64) 24 (nI (o + 1))) 22 (nI (p + 1)))) L fs))) := by
  obtain ⟨h0, ⟨h22, h23, h24, h25⟩, -, hp⟩ := h
  have e1 : J 64 24 + 1 = nI (o + 1) := by rw [h24, nI_1]
  have e2 : J 64 22 + 1 = nI (p + 1) := by rw [h22, nI_1]
  refine zSp_of (lv := [(0, .ref 64)]) k_X12_opens rfl (Nat.le_of_ble_eq_true rfl) ?_
  refine zAloadN d_X12_opens_0 rfl rfl (q := 1) rfl ?_
  refine zGetI d_X12_opens_1 ff_X12_200 sh_64 (by decide) (q := 4) rfl ?_
  refine zBipush d_X12_opens_4 (v := 6) bc_6 (q := 6) rfl ?_
  rw [h24]
  refine zIcmp_ne d_X12_opens_6 (tgt := 15) (q := 9) (by decide) rfl (fun h6 => ?_) (fun h6 => ?_)
  · have c : o < 6 := by rcases Nat.eq_or_lt_of_le ho with q | q; exact absurd (congrArg nI q) h6; exact q
    refine zAloadN d_X12_opens_15 rfl rfl (q := 16) rfl ?_
    refine zDup d_X12_opens_16 rfl (q := 17) rfl ?_
    refine zGetI d_X12_opens_17 ff_X12_200 sh_64 (by decide) (q := 20) rfl ?_
    refine zIconst d_X12_opens_20 (v := 1) ic_1 (q := 21) rfl ?_
    refine zIadd d_X12_opens_21 (q := 22) rfl ?_
    rw [e1]
    refine zPutI d_X12_opens_22 ff_X12_200 rfl rfl rfl sh_64 (by decide) (q := 25) rfl ?_
    refine zAloadN d_X12_opens_25 rfl rfl (q := 26) rfl ?_
    refine zDup d_X12_opens_26 rfl (q := 27) rfl ?_
    refine zGetI d_X12_opens_27 ff_X12_191 sh_64 (by decide) (q := 30) rfl ?_
    refine zIconst d_X12_opens_30 (v := 1) ic_1 (q := 31) rfl ?_
    refine zIadd d_X12_opens_31 (q := 32) rfl ?_
    rw [show (zup J 64 (zup (J 64) 24 (nI (o + 1)))) 64 22 + 1 = nI (p + 1) from e2]
    refine zPutI d_X12_opens_32 ff_X12_191 rfl rfl rfl sh_64 (by decide) (q := 35) rfl ?_
    refine zIconst d_X12_opens_35 (v := 1) ic_1 (q := 36) rfl ?_
    refine zIret d_X12_opens_36 rfl (by first | exact zn_bi | rfl) rfl ?_
    exact ⟨_, rfl, Or.inr ⟨c, rfl, by rw [zup_zup, zup_eq]⟩⟩
  · have c : o = 6 := (nI_eq (b := 6) (by omega) (by decide)).mp h6
    refine zAloadN d_X12_opens_9 rfl rfl (q := 10) rfl ?_
    refine zCallVV d_X12_opens_10 ml_X12_203 k_X12_wrong ki_X12_wrong ks_X12_wrong (sp_X12_wrong (d := d - 1) (by omega) h23) rfl rfl sh_64 (by decide) rfl (by decide) (Nat.le_of_ble_eq_true rfl) (by decide) (by omega) zns100 (q := 13) rfl (fun w' hw' => ?_)
    subst hw'
    rw [h22]
    refine zIconst d_X12_opens_13 (v := 0) ic_0 (q := 14) rfl ?_
    refine zIret d_X12_opens_14 rfl (by first | exact zn_bi | rfl) rfl ?_
    exact ⟨_, rfl, Or.inl ⟨c, rfl, rfl⟩⟩
end S67

