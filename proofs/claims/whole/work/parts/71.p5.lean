theorem d_X12_line_0 : decode (zmc m_X12_line) 0 = .ok (.bipush 61, 2) := by decide +kernel
theorem d_X12_line_2 : decode (zmc m_X12_line) 2 = .ok (.aload_n 0, 1) := by decide +kernel
theorem d_X12_line_3 : decode (zmc m_X12_line) 3 = .ok (.getfield 64, 3) := by decide +kernel
theorem d_X12_line_6 : decode (zmc m_X12_line) 6 = .ok (.iconst 1, 1) := by decide +kernel
theorem d_X12_line_7 : decode (zmc m_X12_line) 7 = .ok (.iaload, 1) := by decide +kernel
theorem d_X12_line_8 : decode (zmc m_X12_line) 8 = .ok (.iadd, 1) := by decide +kernel
theorem d_X12_line_9 : decode (zmc m_X12_line) 9 = .ok (.istore_n 1, 1) := by decide +kernel
theorem d_X12_line_10 : decode (zmc m_X12_line) 10 = .ok (.aload_n 0, 1) := by decide +kernel
theorem d_X12_line_11 : decode (zmc m_X12_line) 11 = .ok (.getfield 67, 3) := by decide +kernel
theorem d_X12_line_14 : decode (zmc m_X12_line) 14 = .ok (.iload_n 1, 1) := by decide +kernel
theorem d_X12_line_15 : decode (zmc m_X12_line) 15 = .ok (.aload_n 0, 1) := by decide +kernel
theorem d_X12_line_16 : decode (zmc m_X12_line) 16 = .ok (.getfield 197, 3) := by decide +kernel
theorem d_X12_line_19 : decode (zmc m_X12_line) 19 = .ok (.i2s, 1) := by decide +kernel
theorem d_X12_line_20 : decode (zmc m_X12_line) 20 = .ok (.sastore, 1) := by decide +kernel
theorem d_X12_line_21 : decode (zmc m_X12_line) 21 = .ok (.aload_n 0, 1) := by decide +kernel
theorem d_X12_line_22 : decode (zmc m_X12_line) 22 = .ok (.invokevirtual 224, 3) := by decide +kernel
theorem d_X12_line_25 : decode (zmc m_X12_line) 25 = .ok (.aload_n 0, 1) := by decide +kernel
theorem d_X12_line_26 : decode (zmc m_X12_line) 26 = .ok (.getfield 194, 3) := by decide +kernel
theorem d_X12_line_29 : decode (zmc m_X12_line) 29 = .ok (.ifCond .ge 37, 3) := by decide +kernel
theorem d_X12_line_32 : decode (zmc m_X12_line) 32 = .ok (.aload_n 0, 1) := by decide +kernel
theorem d_X12_line_33 : decode (zmc m_X12_line) 33 = .ok (.invokevirtual 206, 3) := by decide +kernel
theorem d_X12_line_36 : decode (zmc m_X12_line) 36 = .ok (.bipush 63, 2) := by decide +kernel
theorem d_X12_line_38 : decode (zmc m_X12_line) 38 = .ok (.if_icmp .ne 28, 3) := by decide +kernel
theorem d_X12_line_41 : decode (zmc m_X12_line) 41 = .ok (.aload_n 0, 1) := by decide +kernel
theorem d_X12_line_42 : decode (zmc m_X12_line) 42 = .ok (.dup, 1) := by decide +kernel
theorem d_X12_line_43 : decode (zmc m_X12_line) 43 = .ok (.getfield 191, 3) := by decide +kernel
theorem d_X12_line_46 : decode (zmc m_X12_line) 46 = .ok (.iconst 1, 1) := by decide +kernel
theorem d_X12_line_47 : decode (zmc m_X12_line) 47 = .ok (.iadd, 1) := by decide +kernel
theorem d_X12_line_48 : decode (zmc m_X12_line) 48 = .ok (.putfield 191, 3) := by decide +kernel
theorem d_X12_line_51 : decode (zmc m_X12_line) 51 = .ok (.aload_n 0, 1) := by decide +kernel
theorem d_X12_line_52 : decode (zmc m_X12_line) 52 = .ok (.getfield 67, 3) := by decide +kernel
theorem d_X12_line_55 : decode (zmc m_X12_line) 55 = .ok (.iload_n 1, 1) := by decide +kernel
theorem d_X12_line_56 : decode (zmc m_X12_line) 56 = .ok (.aload_n 0, 1) := by decide +kernel
theorem d_X12_line_57 : decode (zmc m_X12_line) 57 = .ok (.getfield 197, 3) := by decide +kernel
theorem d_X12_line_60 : decode (zmc m_X12_line) 60 = .ok (.i2s, 1) := by decide +kernel
theorem d_X12_line_61 : decode (zmc m_X12_line) 61 = .ok (.sastore, 1) := by decide +kernel
theorem d_X12_line_62 : decode (zmc m_X12_line) 62 = .ok (.aload_n 0, 1) := by decide +kernel
theorem d_X12_line_63 : decode (zmc m_X12_line) 63 = .ok (.invokevirtual 224, 3) := by decide +kernel
theorem d_X12_line_66 : decode (zmc m_X12_line) 66 = .ok (.aload_n 0, 1) := by decide +kernel
theorem d_X12_line_67 : decode (zmc m_X12_line) 67 = .ok (.getfield 71, 3) := by decide +kernel
theorem d_X12_line_70 : decode (zmc m_X12_line) 70 = .ok (.iload_n 1, 1) := by decide +kernel
theorem d_X12_line_71 : decode (zmc m_X12_line) 71 = .ok (.aload_n 0, 1) := by decide +kernel
theorem d_X12_line_72 : decode (zmc m_X12_line) 72 = .ok (.getfield 197, 3) := by decide +kernel
theorem d_X12_line_75 : decode (zmc m_X12_line) 75 = .ok (.i2s, 1) := by decide +kernel
theorem d_X12_line_76 : decode (zmc m_X12_line) 76 = .ok (.sastore, 1) := by decide +kernel
theorem d_X12_line_77 : decode (zmc m_X12_line) 77 = .ok (.aload_n 0, 1) := by decide +kernel
theorem d_X12_line_78 : decode (zmc m_X12_line) 78 = .ok (.getfield 64, 3) := by decide +kernel
theorem d_X12_line_81 : decode (zmc m_X12_line) 81 = .ok (.iconst 1, 1) := by decide +kernel
theorem d_X12_line_82 : decode (zmc m_X12_line) 82 = .ok (.dup2, 1) := by decide +kernel
theorem d_X12_line_83 : decode (zmc m_X12_line) 83 = .ok (.iaload, 1) := by decide +kernel
theorem d_X12_line_84 : decode (zmc m_X12_line) 84 = .ok (.iconst 1, 1) := by decide +kernel
theorem d_X12_line_85 : decode (zmc m_X12_line) 85 = .ok (.iadd, 1) := by decide +kernel
theorem d_X12_line_86 : decode (zmc m_X12_line) 86 = .ok (.iastore, 1) := by decide +kernel
theorem d_X12_line_87 : decode (zmc m_X12_line) 87 = .ok (.return_, 1) := by decide +kernel
/-! THE REFERENCE READS A TEXT: a line -/
theorem zLs_ext {A W T E A' W' T' E' : Nat → Int32} {b : Nat} : ∀ (ls : List zLine) (q f : Nat), (∀ i, i < b + f + zTot ls → A' i = A i ∧ W' i = W i) → (∀ i, i < q + ls.length → T' i = T i ∧ E' i = E i) → zLs A W T E b q f ls → zLs A' W' T' E' b q f ls
  | [], _, _, _, _, _ => trivial
  | x :: ls, q, f, h1, h2, h => by
    obtain ⟨⟨k1, k2⟩, k3, k4⟩ := h
    have ht : zTot (x :: ls) = (zTc x).length + x.2.length + zTot ls := rfl
    have hl : (x :: ls).length = ls.length + 1 := rfl
    refine ⟨⟨by rw [(h2 q (by omega)).1]; exact k1, by rw [(h2 q (by omega)).2]; exact k2⟩, fun i y hy => ?_, zLs_ext ls (q + 1) _ (fun i hi => h1 i (by omega)) (fun i hi => h2 i (by omega)) k4⟩
    have hi := (List.getElem?_eq_some_iff.mp hy).1
    rw [List.length_append] at hi
    obtain ⟨e1, e2⟩ := h1 (b + f + i) (by omega)
    rw [e1, e2]
    exact k3 i y hy
theorem zLs_snoc {A W T E : Nat → Int32} {b : Nat} {y : zLine} : ∀ (ls : List zLine) (q f : Nat), zLs A W T E b q f ls → (T (q + ls.length) = nI (f + zTot ls + (zTc y).length) ∧ E (q + ls.length) = nI (f + zTot ls + ((zTc y).length + y.2.length))) → zLr A W (b + (f + zTot ls)) (zTc y ++ y.2) → zLs A W T E b q f (ls ++ [y])
  | [], q, f, _, h1, h2 => ⟨h1, h2, trivial⟩
  | x :: ls, q, f, h, h1, h2 => by
    obtain ⟨k1, k3, k4⟩ := h
    have ht : zTot (x :: ls) = (zTc x).length + x.2.length + zTot ls := rfl
    have hl : (x :: ls).length = ls.length + 1 := rfl
    refine ⟨k1, k3, zLs_snoc ls (q + 1) _ k4 ?_ ?_⟩
    · rw [show q + 1 + ls.length = q + (x :: ls).length by omega, show f + ((zTc x).length + x.2.length) + zTot ls = f + zTot (x :: ls) by omega]
      exact h1
    · rw [show f + ((zTc x).length + x.2.length) + zTot ls = f + zTot (x :: ls) by omega]
      exact h2
theorem zLs_shift {A W T E A' W' T' E' : Nat → Int32} {b c : Nat} : ∀ (ls : List zLine) (q f : Nat), (∀ i, i < f + zTot ls → A' i = A (b + i) ∧ W' i = W (b + i)) → (∀ i, i < q + ls.length → T' i = T (c + i) ∧ E' i = E (c + i)) → zLs A W T E b (c + q) f ls → zLs A' W' T' E' 0 q f ls
  | [], _, _, _, _, _ => trivial
  | x :: ls, q, f, h1, h2, h => by
    obtain ⟨⟨k1, k2⟩, k3, k4⟩ := h
    have ht : zTot (x :: ls) = (zTc x).length + x.2.length + zTot ls := rfl
    have hl : (x :: ls).length = ls.length + 1 := rfl
    refine ⟨⟨by rw [(h2 q (by omega)).1]; exact k1, by rw [(h2 q (by omega)).2]; exact k2⟩, fun i y hy => ?_, zLs_shift ls (q + 1) _ (fun i hi => h1 i (by omega)) (fun i hi => h2 i (by omega)) k4⟩
    have hi := (List.getElem?_eq_some_iff.mp hy).1
    rw [List.length_append] at hi
    obtain ⟨e1, e2⟩ := h1 (f + i) (by omega)
    rw [Nat.zero_add, e1, e2, ← Nat.add_assoc]
    exact k3 i y hy
theorem zTot_snoc {y : zLine} : ∀ ls : List zLine, zTot (ls ++ [y]) = zTot ls + ((zTc y).length + y.2.length)
  | [] => by show _ + _ + 0 = 0 + _; omega
  | x :: ls => by
    show (zTc x).length + x.2.length + zTot (ls ++ [y]) = (zTc x).length + x.2.length + zTot ls + _
    rw [zTot_snoc ls]; omega
/-- what a text's reading changes -/
def yFrL (I J : Nat → Nat → Int32) : Prop := (∀ a, a ≠ 64 → (a < 80 ∨ 84 < a) → J a = I a) ∧ (∀ k, (k < 22 ∨ 25 < k) → J 64 k = I 64 k) ∧ (∀ i, i < 130 → J 80 i = I 80 i ∧ J 81 i = I 81 i) ∧ J 82 0 = I 82 0 ∧ ∀ i, i < 61 → J 83 i = I 83 i ∧ J 84 i = I 84 i
theorem yFrL_refl {I : Nat → Nat → Int32} : yFrL I I := ⟨fun _ _ _ => rfl, fun _ _ => rfl, fun _ _ => ⟨rfl, rfl⟩, rfl, fun _ _ => ⟨rfl, rfl⟩⟩
theorem yFrL_P {I J H : Nat → Nat → Int32} (h : yFrL I J) (h2 : yFrP J H) : yFrL I H :=
  ⟨fun a q1 q2 => (h2.1 a q1 (by omega) (by omega)).trans (h.1 a q1 q2), fun k q => (h2.2.1 k q).trans (h.2.1 k q), fun i hi => ⟨((h2.2.2 i hi).1).trans (h.2.2.1 i hi).1, ((h2.2.2 i hi).2).trans (h.2.2.1 i hi).2⟩,
   by rw [h2.1 82 (by decide) (by decide) (by decide)]; exact h.2.2.2.1, fun i hi => by rw [h2.1 83 (by decide) (by decide) (by decide), h2.1 84 (by decide) (by decide) (by decide)]; exact h.2.2.2.2 i hi⟩
theorem yFrL_83 {I J : Nat → Nat → Int32} {i : Nat} {x : Int32} (h : yFrL I J) (hi : 61 ≤ i) : yFrL I (zup J 83 (zup (J 83) i x)) :=
  ⟨fun a q1 q2 => by rw [zup_ne (by omega)]; exact h.1 a q1 q2, fun k q => h.2.1 k q, fun i hi => h.2.2.1 i hi, h.2.2.2.1, fun j hj => ⟨by rw [zup_eq, zup_ne (by omega)]; exact (h.2.2.2.2 j hj).1, (h.2.2.2.2 j hj).2⟩⟩
theorem yFrL_84 {I J : Nat → Nat → Int32} {i : Nat} {x : Int32} (h : yFrL I J) (hi : 61 ≤ i) : yFrL I (zup J 84 (zup (J 84) i x)) :=
  ⟨fun a q1 q2 => by rw [zup_ne (by omega)]; exact h.1 a q1 q2, fun k q => h.2.1 k q, fun i hi => h.2.2.1 i hi, h.2.2.2.1, fun j hj => ⟨(h.2.2.2.2 j hj).1, by rw [zup_eq, zup_ne (by omega)]; exact (h.2.2.2.2 j hj).2⟩⟩
theorem yFrL_82 {I J : Nat → Nat → Int32} {x : Int32} (h : yFrL I J) : yFrL I (zup J 82 (zup (J 82) 1 x)) :=
  ⟨fun a q1 q2 => by rw [zup_ne (by omega)]; exact h.1 a q1 q2, fun k q => h.2.1 k q, fun i hi => h.2.2.1 i hi, by rw [zup_eq, zup_ne (by decide)]; exact h.2.2.2.1, fun j hj => h.2.2.2.2 j hj⟩
theorem yFrL_64 {I J : Nat → Nat → Int32} {k : Nat} {x : Int32} (h : yFrL I J) (hk : 22 ≤ k ∧ k ≤ 25) : yFrL I (zup J 64 (zup (J 64) k x)) :=
  ⟨fun a q1 q2 => by rw [zup_ne q1]; exact h.1 a q1 q2, fun i q => by rw [zup_eq, zup_ne (by omega)]; exact h.2.1 i q, fun i hi => h.2.2.1 i hi, h.2.2.2.1, fun j hj => h.2.2.2.2 j hj⟩
/-- lines pg are read, the place p -/
def yLn (I J : Nat → Nat → Int32) (m p : Nat) (pg : List zLine) : Prop := yFrL I J ∧ (J 64 22 = nI p ∧ J 64 23 = -1 ∧ J 64 24 = nI 0 ∧ J 64 25 = nI (zTot pg)) ∧ zTot pg ≤ p ∧ p ≤ m ∧ J 82 1 = nI pg.length ∧ zLs (J 80) (J 81) (J 83) (J 84) 130 61 0 pg
def yLb (I J : Nat → Nat → Int32) (m r : Nat) : Prop := yFrL I J ∧ J 64 23 = nI r ∧ r ≤ m
theorem yshort : ∀ n, n < 1000 → (nI n).toInt16.toInt32 = nI n := by decide +kernel
section S71
variable {g : zG} {l : Launch} {I : Nat → Nat → Int32} {T : Nat → Int32} {L : Nat → Nat → Int64} {fs : Nat × Nat × Option Nat} {m : Nat}
theorem sp_yE (hT : I 79 = T) (h21 : I 64 21 = nI m) (hm : m ≤ 120) {d : Nat} (hd : 46 ≤ d) : yPc g l d L fs I T m m_X12_either (zE T m) 0 :=
  sp_eitherOf hT h21 hm (zOp_gd 6) (D := 40) (by decide) (fun d hd => sp_X12_operand hT h21 hm 6 (Nat.le_refl _) d (by omega)) (by omega)
theorem sp_X12_line (hT : I 79 = T) (h21 : I 64 21 = nI m) (hm : m ≤ 120) {d : Nat} (hd : 47 ≤ d) {J : Nat → Nat → Int32} {p : Nat} {pg : List zLine} (hJ : yLn I J m p pg) (hq : 2 * pg.length ≤ p) :
    zSp g l d 100 m_X12_line [.ref 64] (zU J L fs) (zV (fun w => ∃ J', w = zU J' L fs ∧ ((∃ y, (zLn T m p).2 = some y ∧ yLn I J' m (zLn T m p).1 (pg ++ [y])) ∨ (((zLn T m p).2 = none ∨ yDg T m (zLn T m p).1) ∧ yLb I J' m (zLn T m p).1)))) := by
  obtain ⟨f0, ⟨h22, h23, h24, h25⟩, hnp, hp, h82, hls⟩ := hJ
  obtain ⟨q, eq⟩ : ∃ q, q = pg.length := ⟨_, rfl⟩
  rw [← eq] at h82 hq
  have e61 : (61 : Int32) + nI q = nI (61 + q) := nI_add 61 q
  have hE := zE_gd (T := T) (m := m) p hp
  obtain ⟨N, eN⟩ : ∃ N, N = zTot pg := ⟨_, rfl⟩
  rw [← eN] at hnp h25
  -- the end of a line, a fault or none
  have tail : ∀ (Q : Option Value → zW → Prop) (J3 : Nat → Nat → Int32) (n3 : Nat), J3 64 25 = nI n3 → n3 < 1000 → J3 82 1 = nI q → Q none (zU (zup (zup J3 84 (zup (J3 84) (61 + q) (nI n3))) 82 (zup (J3 82) 1 (nI (q + 1)))) L fs) → zA g l d m_X12_line J3 L fs 66 [(1, .int (nI (61 + q))), (0, .ref 64)] Q := by
    intro Q J3 n3 g25 hn g82 KK
    refine zAloadN d_X12_line_66 rfl rfl (q := 67) rfl ?_
    refine zGetR d_X12_line_67 ff_X12_71 sh_64 (by decide) r_64_30 (q := 70) rfl ?_
    refine zIloadN d_X12_line_70 rfl rfl (q := 71) rfl ?_
    refine zAloadN d_X12_line_71 rfl rfl (q := 72) rfl ?_
    refine zGetI d_X12_line_72 ff_X12_197 sh_64 (by decide) (q := 75) rfl ?_
    rw [g25]
    refine zI2s d_X12_line_75 (q := 76) rfl ?_
    rw [yshort n3 hn]
    refine zSast d_X12_line_76 sh_84 (by decide) rfl (by omega) (q := 77) rfl ?_
    rw [yshort n3 hn]
    refine zAloadN d_X12_line_77 rfl rfl (q := 78) rfl ?_
    refine zGetR d_X12_line_78 ff_X12_64 sh_64 (by decide) r_64_28 (q := 81) rfl ?_
    refine zIconst d_X12_line_81 (v := 1) ic_1 (q := 82) rfl ?_
    refine zDup2 d_X12_line_82 rfl rfl (q := 83) rfl ?_
    refine zIald d_X12_line_83 sh_82 (by decide) (j := 1) rfl (by decide) (q := 84) rfl ?_
    rw [show (zup J3 84 (zup (J3 84) (61 + q) (nI n3))) 82 1 = nI q from g82]
    refine zIconst d_X12_line_84 (v := 1) ic_1 (q := 85) rfl ?_
    refine zIadd d_X12_line_85 (q := 86) rfl ?_
    rw [nI_1]
    refine zIast d_X12_line_86 sh_82 (by decide) (j := 1) rfl (by decide) (q := 87) rfl ?_
    refine zVret d_X12_line_87 rfl rfl ?_
    exact KK
  have bad : ∀ (J3 : Nat → Nat → Int32) (p3 n3 : Nat) (J1 : Nat → Nat → Int32), yFrL I J1 → J1 82 1 = nI q → yBdS J1 J3 m p3 n3 (zLn T m p).1 → n3 ≤ p3 → ((zLn T m p).2 = none ∨ yDg T m (zLn T m p).1) → zA g l d m_X12_line J3 L fs 66 [(1, .int (nI (61 + q))), (0, .ref 64)] (zV (fun w => ∃ J', w = zU J' L fs ∧ ((∃ y, (zLn T m p).2 = some y ∧ yLn I J' m (zLn T m p).1 (pg ++ [y])) ∨ (((zLn T m p).2 = none ∨ yDg T m (zLn T m p).1) ∧ yLb I J' m (zLn T m p).1)))) := by
    intro J3 p3 n3 J1 hf1 hq1 hb hn3 hR
    obtain ⟨k1, k2, p', n', k3, k4, k5, k6, k7⟩ := hb
    refine tail _ J3 n' k4 (by omega) (by rw [k1.1 82 (by decide) (by decide) (by decide)]; exact hq1) ⟨rfl, _, rfl, Or.inr ⟨hR, yFrL_82 (J := zup J3 84 _) (yFrL_84 (yFrL_P hf1 k1) (by omega)), k2.1, k2.2⟩⟩
  have good : ∀ (J3 : Nat → Nat → Int32) (y : zLine) (p3 : Nat), yFrL I J3 → (J3 64 22 = nI p3 ∧ J3 64 23 = -1 ∧ J3 64 24 = nI 0 ∧ J3 64 25 = nI (N + ((zTc y).length + y.2.length))) → N + ((zTc y).length + y.2.length) ≤ p3 → p3 ≤ m → J3 82 1 = nI q → zLs (J3 80) (J3 81) (J3 83) (J3 84) 130 61 0 pg → J3 83 (61 + q) = nI (N + (zTc y).length) → zLr (J3 80) (J3 81) (130 + N) (zTc y ++ y.2) → zLn T m p = (p3, some y) → zA g l d m_X12_line J3 L fs 66 [(1, .int (nI (61 + q))), (0, .ref 64)] (zV (fun w => ∃ J', w = zU J' L fs ∧ ((∃ y, (zLn T m p).2 = some y ∧ yLn I J' m (zLn T m p).1 (pg ++ [y])) ∨ (((zLn T m p).2 = none ∨ yDg T m (zLn T m p).1) ∧ yLb I J' m (zLn T m p).1)))) := by
    intro J3 y p3 k1 k2 k3 k4 k5 k6 k7 k8 hR
    refine tail _ J3 _ k2.2.2.2 (by omega) k5 ⟨rfl, _, rfl, Or.inl ⟨y, by rw [hR], ?_⟩⟩
    rw [hR]
    refine ⟨yFrL_82 (J := zup J3 84 _) (yFrL_84 k1 (by omega)), ⟨k2.1, k2.2.1, k2.2.2.1, by rw [zTot_snoc, ← eN]; exact k2.2.2.2⟩, by rw [zTot_snoc, ← eN]; exact k3, k4, by rw [List.length_append, ← eq]; rfl, ?_⟩
    refine zLs_snoc pg 61 0 (zLs_ext (A := J3 80) (W := J3 81) (T := J3 83) (E := J3 84) pg 61 0 (fun i hi => ⟨rfl, rfl⟩) (fun i hi => ⟨rfl, ?_⟩) k6) ⟨?_, ?_⟩ ?_
    · show (zup (J3 84) (61 + q) _) i = J3 84 i
      rw [zup_ne (by rw [← eq] at hi; omega)]
    · rw [← eq, Nat.zero_add, ← eN]; exact k7
    · rw [← eq, Nat.zero_add, ← eN]
      show (zup (J3 84) (61 + q) _) (61 + q) = _
      rw [zup_eq]
    · rw [Nat.zero_add, ← eN]; exact k8
  obtain ⟨J0, hJ0⟩ : ∃ J0 : Nat → Nat → Int32, J0 = zup J 83 (zup (J 83) (61 + q) (nI N)) := ⟨_, rfl⟩
  have fr0 : yFrL I J0 := by rw [hJ0]; exact yFrL_83 f0 (by omega)
  have j0T : J0 79 = T := (fr0.1 79 (by decide) (by decide)).trans hT
  have j021 : J0 64 21 = nI m := (fr0.2.1 21 (by decide)).trans h21
  have ok0 : yOkS J0 J0 m p 0 N := by rw [hJ0]; exact ⟨yFrP_refl, ⟨h22, h23, h24, h25⟩, hnp, hp⟩
  have q0 : J0 82 1 = nI q := by rw [hJ0]; exact h82
  have ls0 : zLs (J0 80) (J0 81) (J0 83) (J0 84) 130 61 0 pg := by
    rw [hJ0]
    refine zLs_ext (A := J 80) (W := J 81) (T := J 83) (E := J 84) pg 61 0 (fun i hi => ⟨rfl, rfl⟩) (fun i hi => ⟨?_, rfl⟩) hls
    show (zup (J 83) (61 + q) _) i = J 83 i
    rw [zup_ne (by rw [← eq] at hi; omega)]
  have t0 : J0 83 (61 + q) = nI N := by rw [hJ0]; show (zup (J 83) (61 + q) _) (61 + q) = _; rw [zup_eq]
  -- behind the first E, where it went well
  have mid : ∀ J1 p1 c, yOkS J0 J1 m p1 0 (N + c.length) → yLy J0 J1 N c → (zE T m p).2 = some c → (zE T m p).1 = p1 → zA g l d m_X12_line J1 L fs 25 [(1, .int (nI (61 + q))), (0, .ref 64)] (zV (fun w => ∃ J', w = zU J' L fs ∧ ((∃ y, (zLn T m p).2 = some y ∧ yLn I J' m (zLn T m p).1 (pg ++ [y])) ∨ (((zLn T m p).2 = none ∨ yDg T m (zLn T m p).1) ∧ yLb I J' m (zLn T m p).1)))) := by
    intro J1 p1 c ok ly e1 e2
    have fr1 := yFrL_P fr0 ok.1
    have j1T : J1 79 = T := (fr1.1 79 (by decide) (by decide)).trans hT
    have j121 : J1 64 21 = nI m := (fr1.2.1 21 (by decide)).trans h21
    obtain ⟨g22, g23, g24, g25⟩ := ok.2.1
    have hp1 := ok.2.2.2
    have hn1 := ok.2.2.1
    have q1 : J1 82 1 = nI q := by rw [ok.1.1 82 (by decide) (by decide) (by decide)]; exact q0
    have s83 : J1 83 = J0 83 := ok.1.1 83 (by decide) (by decide) (by decide)
    have s84 : J1 84 = J0 84 := ok.1.1 84 (by decide) (by decide) (by decide)
    have ls1 : zLs (J1 80) (J1 81) (J1 83) (J1 84) 130 61 0 pg := zLs_ext (A := J0 80) (W := J0 81) (T := J0 83) (E := J0 84) pg 61 0 (fun i hi => ly.1 i (by omega)) (fun i hi => by rw [s83, s84]; exact ⟨rfl, rfl⟩) ls0
    have hL := (hE.2.2 c e1).1
    have eL0 : ¬ zAt T m p1 = 63 → zLn T m p = (p1, some (none, c)) := fun z => by unfold zLn; rw [e1, e2]; exact if_neg z
    refine zAloadN d_X12_line_25 rfl rfl (q := 26) rfl ?_
    refine zGetI d_X12_line_26 ff_X12_194 sh_64 (by decide) (q := 29) rfl ?_
    refine zIf_ge d_X12_line_29 (tgt := 66) (q := 32) (by decide) rfl (fun h => absurd h (by rw [g23]; decide)) (fun h29 => ?_)
    refine zAloadN d_X12_line_32 rfl rfl (q := 33) rfl ?_
    refine zCallVP d_X12_line_33 ml_X12_206 k_X12_look ki_X12_look ks_X12_look (sp_X12_look (d := d - 1) (by omega) j1T j121 hm g22 (by omega)) rfl rfl sh_64 (by decide) rfl (by decide) (Nat.le_of_ble_eq_true rfl) (by decide) (by omega) zns100 (q := 36) rfl ?_
    refine zBipush d_X12_line_36 (v := 63) bc_63 (q := 38) rfl ?_
    refine zIcmp_ne d_X12_line_38 (tgt := 66) (q := 41) (by decide) rfl (fun h38 => ?_) (fun h38 => ?_)
    · have eR := eL0 h38
      refine zSub [0, 1] rfl ?_
      first
      | exact good J1 (none, c) p1 fr1 ⟨g22, g23, g24, by rw [g25]; exact congrArg nI (show N + c.length = N + (0 + c.length) by omega)⟩ (show N + (0 + c.length) ≤ p1 by omega) hp1 q1 ls1 (by rw [s83]; exact t0) ly.2 eR
      | (have hE2 := zE_gd (T := T) (m := m) (p1 + 1) hpl
         have q2 : J2 82 1 = nI q := (by rw [hJ2]; exact q1)
         rcases hr with ⟨v, f1, okv, lyv⟩ | ⟨f1, bd⟩
         · have eR : zLn T m p = ((zE T m (p1 + 1)).1, some (some c, v)) := (by unfold zLn; rw [e1, e2]; show (if _ then _ else _) = _; rw [if_pos h38, f1])
           have z83 : J3 83 = J2 83 := okv.1.1 83 (by decide) (by decide) (by decide)
           have z84 : J3 84 = J2 84 := okv.1.1 84 (by decide) (by decide) (by decide)
           have okn := okv.2.2.1
           have okm := okv.2.2.2
           have ew : N + ((zTc (some c, v)).length + v.length) = N + c.length + v.length := (by show N + (c.length + v.length) = _; omega)
           refine good J3 (some c, v) _ (yFrL_P fr2 okv.1) ⟨okv.2.1.1, okv.2.1.2.1, okv.2.1.2.2.1, by rw [okv.2.1.2.2.2]; exact congrArg nI ew.symm⟩ (by show N + (c.length + v.length) ≤ _; omega) okm (by rw [okv.1.1 82 (by decide) (by decide) (by decide)]; exact q2) ?_ ?_ ?_ eR
           · refine zLs_ext (A := J1 80) (W := J1 81) (T := J1 83) (E := J1 84) pg 61 0 (fun i hi => ?_) (fun i hi => ?_) ls1
             · have := lyv.1 i (by omega)
               rw [this.1, this.2, hJ2]; exact ⟨rfl, rfl⟩
             · rw [z83, z84, hJ2]
               refine ⟨?_, rfl⟩
               show (zup (J1 83) (61 + q) _) i = J1 83 i
               rw [zup_ne (by rw [← eq] at hi; omega)]
           · rw [z83, hJ2]
             show (zup (J1 83) (61 + q) _) (61 + q) = _
             rw [zup_eq]; rfl
           · have l1 : yLy J0 J2 N c := (by rw [hJ2]; exact ly)
             exact (yLy_app l1 lyv).2
         · have eR : (zLn T m p).1 = (zE T m (p1 + 1)).1 ∧ ((zLn T m p).2 = none ∨ yDg T m (zLn T m p).1) := (by
             rcases f2 : (zE T m (p1 + 1)).2 with _ | v
             · have : zLn T m p = ((zE T m (p1 + 1)).1, none) := (by unfold zLn; rw [e1, e2]; show (if _ then _ else _) = _; rw [if_pos h38, f2])
               rw [this]; exact ⟨rfl, Or.inl rfl⟩
             · have : zLn T m p = ((zE T m (p1 + 1)).1, some (some c, v)) := (by unfold zLn; rw [e1, e2]; show (if _ then _ else _) = _; rw [if_pos h38, f2])
               rw [this]; exact ⟨rfl, Or.inr (f1.resolve_left (by rw [f2]; exact fun z => by cases z))⟩)
           rw [← eR.1] at bd
           exact bad J3 (p1 + 1) (N + c.length) J2 fr2 q2 bd (by omega) eR.2)
    · have hpl := zAt_in (T := T) (m := m) (p := p1) (by rw [h38]; decide)
      refine zAloadN d_X12_line_41 rfl rfl (q := 42) rfl ?_
      refine zDup d_X12_line_42 rfl (q := 43) rfl ?_
      refine zGetI d_X12_line_43 ff_X12_191 sh_64 (by decide) (q := 46) rfl ?_
      refine zIconst d_X12_line_46 (v := 1) ic_1 (q := 47) rfl ?_
      refine zIadd d_X12_line_47 (q := 48) rfl ?_
      rw [g22, nI_1]
      refine zPutI d_X12_line_48 ff_X12_191 rfl rfl rfl sh_64 (by decide) (q := 51) rfl ?_
      refine zAloadN d_X12_line_51 rfl rfl (q := 52) rfl ?_
      refine zGetR d_X12_line_52 ff_X12_67 sh_64 (by decide) r_64_29 (q := 55) rfl ?_
      refine zIloadN d_X12_line_55 rfl rfl (q := 56) rfl ?_
      refine zAloadN d_X12_line_56 rfl rfl (q := 57) rfl ?_
      refine zGetI d_X12_line_57 ff_X12_197 sh_64 (by decide) (q := 60) rfl ?_
      rw [show (zup J1 64 (zup (J1 64) 22 (nI (p1 + 1)))) 64 25 = nI (N + c.length) from g25]
      refine zI2s d_X12_line_60 (q := 61) rfl ?_
      rw [yshort _ (by omega)]
      refine zSast d_X12_line_61 sh_83 (by decide) rfl (by omega) (q := 62) rfl ?_
      rw [yshort _ (by omega)]
      obtain ⟨J2, hJ2⟩ : ∃ J2 : Nat → Nat → Int32, J2 = zup (zup J1 64 (zup (J1 64) 22 (nI (p1 + 1)))) 83 (zup ((zup J1 64 (zup (J1 64) 22 (nI (p1 + 1)))) 83) (61 + q) (nI (N + c.length))) := ⟨_, rfl⟩
      rw [← hJ2]
      have fr2 : yFrL I J2 := by rw [hJ2]; exact yFrL_83 (yFrL_64 fr1 (by decide)) (by omega)
      have ok2 : yOkS J2 J2 m (p1 + 1) 0 (N + c.length) := by rw [hJ2]; exact ⟨yFrP_refl, ⟨rfl, g23, g24, g25⟩, by omega, hpl⟩
      refine zAloadN d_X12_line_62 rfl rfl (q := 63) rfl ?_
      refine zCallVV d_X12_line_63 ml_X12_224 k_X12_either ki_X12_either ks_X12_either (sp_yE (I := J2) (d := d - 1) ((fr2.1 79 (by decide) (by decide)).trans hT) ((fr2.2.1 21 (by decide)).trans h21) hm (by omega) J2 (p1 + 1) (N + c.length) ok2) rfl rfl sh_64 (by decide) rfl (by decide) (Nat.le_of_ble_eq_true rfl) (by decide) (by omega) zns100 (q := 66) rfl (fun w' hw' => ?_)
      obtain ⟨J3, rfl, hr⟩ := hw'
      refine zSub [0, 1] rfl ?_
      first
      | exact good J1 (none, c) p1 fr1 ⟨g22, g23, g24, by rw [g25]; exact congrArg nI (show N + c.length = N + (0 + c.length) by omega)⟩ (show N + (0 + c.length) ≤ p1 by omega) hp1 q1 ls1 (by rw [s83]; exact t0) ly.2 eR
      | (have hE2 := zE_gd (T := T) (m := m) (p1 + 1) hpl
         have q2 : J2 82 1 = nI q := (by rw [hJ2]; exact q1)
         rcases hr with ⟨v, f1, okv, lyv⟩ | ⟨f1, bd⟩
         · have eR : zLn T m p = ((zE T m (p1 + 1)).1, some (some c, v)) := (by unfold zLn; rw [e1, e2]; show (if _ then _ else _) = _; rw [if_pos h38, f1])
           have z83 : J3 83 = J2 83 := okv.1.1 83 (by decide) (by decide) (by decide)
           have z84 : J3 84 = J2 84 := okv.1.1 84 (by decide) (by decide) (by decide)
           have okn := okv.2.2.1
           have okm := okv.2.2.2
           have ew : N + ((zTc (some c, v)).length + v.length) = N + c.length + v.length := (by show N + (c.length + v.length) = _; omega)
           refine good J3 (some c, v) _ (yFrL_P fr2 okv.1) ⟨okv.2.1.1, okv.2.1.2.1, okv.2.1.2.2.1, by rw [okv.2.1.2.2.2]; exact congrArg nI ew.symm⟩ (by show N + (c.length + v.length) ≤ _; omega) okm (by rw [okv.1.1 82 (by decide) (by decide) (by decide)]; exact q2) ?_ ?_ ?_ eR
           · refine zLs_ext (A := J1 80) (W := J1 81) (T := J1 83) (E := J1 84) pg 61 0 (fun i hi => ?_) (fun i hi => ?_) ls1
             · have := lyv.1 i (by omega)
               rw [this.1, this.2, hJ2]; exact ⟨rfl, rfl⟩
             · rw [z83, z84, hJ2]
               refine ⟨?_, rfl⟩
               show (zup (J1 83) (61 + q) _) i = J1 83 i
               rw [zup_ne (by rw [← eq] at hi; omega)]
           · rw [z83, hJ2]
             show (zup (J1 83) (61 + q) _) (61 + q) = _
             rw [zup_eq]; rfl
           · have l1 : yLy J0 J2 N c := (by rw [hJ2]; exact ly)
             exact (yLy_app l1 lyv).2
         · have eR : (zLn T m p).1 = (zE T m (p1 + 1)).1 ∧ ((zLn T m p).2 = none ∨ yDg T m (zLn T m p).1) := (by
             rcases f2 : (zE T m (p1 + 1)).2 with _ | v
             · have : zLn T m p = ((zE T m (p1 + 1)).1, none) := (by unfold zLn; rw [e1, e2]; show (if _ then _ else _) = _; rw [if_pos h38, f2])
               rw [this]; exact ⟨rfl, Or.inl rfl⟩
             · have : zLn T m p = ((zE T m (p1 + 1)).1, some (some c, v)) := (by unfold zLn; rw [e1, e2]; show (if _ then _ else _) = _; rw [if_pos h38, f2])
               rw [this]; exact ⟨rfl, Or.inr (f1.resolve_left (by rw [f2]; exact fun z => by cases z))⟩)
           rw [← eR.1] at bd
           exact bad J3 (p1 + 1) (N + c.length) J2 fr2 q2 bd (by omega) eR.2)
  have badA : ∀ J1, yBdS J0 J1 m p N (zLn T m p).1 → ((zLn T m p).2 = none ∨ yDg T m (zLn T m p).1) → zA g l d m_X12_line J1 L fs 25 [(1, .int (nI (61 + q))), (0, .ref 64)] (zV (fun w => ∃ J', w = zU J' L fs ∧ ((∃ y, (zLn T m p).2 = some y ∧ yLn I J' m (zLn T m p).1 (pg ++ [y])) ∨ (((zLn T m p).2 = none ∨ yDg T m (zLn T m p).1) ∧ yLb I J' m (zLn T m p).1)))) := by
    intro J1 bd hR
    refine zAloadN d_X12_line_25 rfl rfl (q := 26) rfl ?_
    refine zGetI d_X12_line_26 ff_X12_194 sh_64 (by decide) (q := 29) rfl ?_
    refine zIf_ge d_X12_line_29 (tgt := 66) (q := 32) (by decide) rfl (fun h29 => ?_) (fun h => absurd (by rw [bd.2.1.1]; exact zn_ge (by have := bd.2.1.2; omega)) h)
    refine zSub [0, 1] rfl ?_
    exact bad J1 p N J0 fr0 q0 bd hnp hR
  refine zSp_of (lv := [(0, .ref 64)]) k_X12_line rfl (Nat.le_of_ble_eq_true rfl) ?_
  refine zBipush d_X12_line_0 (v := 61) bc_61 (q := 2) rfl ?_
  refine zAloadN d_X12_line_2 rfl rfl (q := 3) rfl ?_
  refine zGetR d_X12_line_3 ff_X12_64 sh_64 (by decide) r_64_28 (q := 6) rfl ?_
  refine zIconst d_X12_line_6 (v := 1) ic_1 (q := 7) rfl ?_
  refine zIald d_X12_line_7 sh_82 (by decide) (j := 1) rfl (by decide) (q := 8) rfl ?_
  rw [h82]
  refine zIadd d_X12_line_8 (q := 9) rfl ?_
  rw [e61]
  refine zIstoreN d_X12_line_9 rfl (by decide) rfl (q := 10) rfl ?_
  refine zAloadN d_X12_line_10 rfl rfl (q := 11) rfl ?_
  refine zGetR d_X12_line_11 ff_X12_67 sh_64 (by decide) r_64_29 (q := 14) rfl ?_
  refine zIloadN d_X12_line_14 rfl rfl (q := 15) rfl ?_
  refine zAloadN d_X12_line_15 rfl rfl (q := 16) rfl ?_
  refine zGetI d_X12_line_16 ff_X12_197 sh_64 (by decide) (q := 19) rfl ?_
  rw [h25]
  refine zI2s d_X12_line_19 (q := 20) rfl ?_
  rw [yshort _ (by omega)]
  refine zSast d_X12_line_20 sh_83 (by decide) rfl (by omega) (q := 21) rfl ?_
  rw [yshort _ (by omega), ← hJ0]
  refine zAloadN d_X12_line_21 rfl rfl (q := 22) rfl ?_
  refine zCallVV d_X12_line_22 ml_X12_224 k_X12_either ki_X12_either ks_X12_either (sp_yE (I := J0) (d := d - 1) j0T j021 hm (by omega) J0 p N ok0) rfl rfl sh_64 (by decide) rfl (by decide) (Nat.le_of_ble_eq_true rfl) (by decide) (by omega) zns100 (q := 25) rfl (fun w' hw' => ?_)
  obtain ⟨J1, rfl, hr⟩ := hw'
  refine zSub [0, 1] rfl ?_
  rcases hr with ⟨c, e1, ok, ly⟩ | ⟨e1, bd⟩
  · exact mid J1 _ c ok ly e1 rfl
  · have eR : (zLn T m p).1 = (zE T m p).1 ∧ ((zLn T m p).2 = none ∨ yDg T m (zLn T m p).1) := by
      rcases f2 : (zE T m p).2 with _ | c
      · have : zLn T m p = ((zE T m p).1, none) := by unfold zLn; rw [f2]
        rw [this]; exact ⟨rfl, Or.inl rfl⟩
      · have dg := e1.resolve_left (by rw [f2]; exact fun z => by cases z)
        have : zLn T m p = ((zE T m p).1, some (none, c)) := by unfold zLn; rw [f2]; exact if_neg (fun z => by have d1 := dg.2; rw [z] at d1; exact absurd d1 (by decide))
        rw [this]; exact ⟨rfl, Or.inr dg⟩
    rw [← eR.1] at bd
    exact badA J1 bd eR.2
end S71

