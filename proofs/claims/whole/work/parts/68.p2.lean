theorem d_X12_both_0 : decode (zmc m_X12_both) 0 = .ok (.aload_n 0, 1) := by decide +kernel
theorem d_X12_both_1 : decode (zmc m_X12_both) 1 = .ok (.invokevirtual 236, 3) := by decide +kernel
theorem d_X12_both_4 : decode (zmc m_X12_both) 4 = .ok (.aload_n 0, 1) := by decide +kernel
theorem d_X12_both_5 : decode (zmc m_X12_both) 5 = .ok (.getfield 194, 3) := by decide +kernel
theorem d_X12_both_8 : decode (zmc m_X12_both) 8 = .ok (.ifCond .ge 36, 3) := by decide +kernel
theorem d_X12_both_11 : decode (zmc m_X12_both) 11 = .ok (.aload_n 0, 1) := by decide +kernel
theorem d_X12_both_12 : decode (zmc m_X12_both) 12 = .ok (.invokevirtual 206, 3) := by decide +kernel
theorem d_X12_both_15 : decode (zmc m_X12_both) 15 = .ok (.bipush 38, 2) := by decide +kernel
theorem d_X12_both_17 : decode (zmc m_X12_both) 17 = .ok (.if_icmp .ne 27, 3) := by decide +kernel
theorem d_X12_both_20 : decode (zmc m_X12_both) 20 = .ok (.aload_n 0, 1) := by decide +kernel
theorem d_X12_both_21 : decode (zmc m_X12_both) 21 = .ok (.dup, 1) := by decide +kernel
theorem d_X12_both_22 : decode (zmc m_X12_both) 22 = .ok (.getfield 191, 3) := by decide +kernel
theorem d_X12_both_25 : decode (zmc m_X12_both) 25 = .ok (.iconst 1, 1) := by decide +kernel
theorem d_X12_both_26 : decode (zmc m_X12_both) 26 = .ok (.iadd, 1) := by decide +kernel
theorem d_X12_both_27 : decode (zmc m_X12_both) 27 = .ok (.putfield 191, 3) := by decide +kernel
theorem d_X12_both_30 : decode (zmc m_X12_both) 30 = .ok (.aload_n 0, 1) := by decide +kernel
theorem d_X12_both_31 : decode (zmc m_X12_both) 31 = .ok (.invokevirtual 236, 3) := by decide +kernel
theorem d_X12_both_34 : decode (zmc m_X12_both) 34 = .ok (.aload_n 0, 1) := by decide +kernel
theorem d_X12_both_35 : decode (zmc m_X12_both) 35 = .ok (.bipush 38, 2) := by decide +kernel
theorem d_X12_both_37 : decode (zmc m_X12_both) 37 = .ok (.iconst 0, 1) := by decide +kernel
theorem d_X12_both_38 : decode (zmc m_X12_both) 38 = .ok (.invokevirtual 210, 3) := by decide +kernel
theorem d_X12_both_41 : decode (zmc m_X12_both) 41 = .ok (.goto (-37), 3) := by decide +kernel
theorem d_X12_both_44 : decode (zmc m_X12_both) 44 = .ok (.return_, 1) := by decide +kernel
theorem d_X12_either_0 : decode (zmc m_X12_either) 0 = .ok (.aload_n 0, 1) := by decide +kernel
theorem d_X12_either_1 : decode (zmc m_X12_either) 1 = .ok (.invokevirtual 239, 3) := by decide +kernel
theorem d_X12_either_4 : decode (zmc m_X12_either) 4 = .ok (.aload_n 0, 1) := by decide +kernel
theorem d_X12_either_5 : decode (zmc m_X12_either) 5 = .ok (.getfield 194, 3) := by decide +kernel
theorem d_X12_either_8 : decode (zmc m_X12_either) 8 = .ok (.ifCond .ge 36, 3) := by decide +kernel
theorem d_X12_either_11 : decode (zmc m_X12_either) 11 = .ok (.aload_n 0, 1) := by decide +kernel
theorem d_X12_either_12 : decode (zmc m_X12_either) 12 = .ok (.invokevirtual 206, 3) := by decide +kernel
theorem d_X12_either_15 : decode (zmc m_X12_either) 15 = .ok (.bipush 124, 2) := by decide +kernel
theorem d_X12_either_17 : decode (zmc m_X12_either) 17 = .ok (.if_icmp .ne 27, 3) := by decide +kernel
theorem d_X12_either_20 : decode (zmc m_X12_either) 20 = .ok (.aload_n 0, 1) := by decide +kernel
theorem d_X12_either_21 : decode (zmc m_X12_either) 21 = .ok (.dup, 1) := by decide +kernel
theorem d_X12_either_22 : decode (zmc m_X12_either) 22 = .ok (.getfield 191, 3) := by decide +kernel
theorem d_X12_either_25 : decode (zmc m_X12_either) 25 = .ok (.iconst 1, 1) := by decide +kernel
theorem d_X12_either_26 : decode (zmc m_X12_either) 26 = .ok (.iadd, 1) := by decide +kernel
theorem d_X12_either_27 : decode (zmc m_X12_either) 27 = .ok (.putfield 191, 3) := by decide +kernel
theorem d_X12_either_30 : decode (zmc m_X12_either) 30 = .ok (.aload_n 0, 1) := by decide +kernel
theorem d_X12_either_31 : decode (zmc m_X12_either) 31 = .ok (.invokevirtual 239, 3) := by decide +kernel
theorem d_X12_either_34 : decode (zmc m_X12_either) 34 = .ok (.aload_n 0, 1) := by decide +kernel
theorem d_X12_either_35 : decode (zmc m_X12_either) 35 = .ok (.bipush 124, 2) := by decide +kernel
theorem d_X12_either_37 : decode (zmc m_X12_either) 37 = .ok (.iconst 0, 1) := by decide +kernel
theorem d_X12_either_38 : decode (zmc m_X12_either) 38 = .ok (.invokevirtual 210, 3) := by decide +kernel
theorem d_X12_either_41 : decode (zmc m_X12_either) 41 = .ok (.goto (-37), 3) := by decide +kernel
theorem d_X12_either_44 : decode (zmc m_X12_either) 44 = .ok (.return_, 1) := by decide +kernel
theorem d_X12_product_0 : decode (zmc m_X12_product) 0 = .ok (.aload_n 0, 1) := by decide +kernel
theorem d_X12_product_1 : decode (zmc m_X12_product) 1 = .ok (.invokevirtual 221, 3) := by decide +kernel
theorem d_X12_product_4 : decode (zmc m_X12_product) 4 = .ok (.aload_n 0, 1) := by decide +kernel
theorem d_X12_product_5 : decode (zmc m_X12_product) 5 = .ok (.getfield 194, 3) := by decide +kernel
theorem d_X12_product_8 : decode (zmc m_X12_product) 8 = .ok (.ifCond .ge 58, 3) := by decide +kernel
theorem d_X12_product_11 : decode (zmc m_X12_product) 11 = .ok (.aload_n 0, 1) := by decide +kernel
theorem d_X12_product_12 : decode (zmc m_X12_product) 12 = .ok (.invokevirtual 206, 3) := by decide +kernel
theorem d_X12_product_15 : decode (zmc m_X12_product) 15 = .ok (.bipush 42, 2) := by decide +kernel
theorem d_X12_product_17 : decode (zmc m_X12_product) 17 = .ok (.if_icmp .eq 21, 3) := by decide +kernel
theorem d_X12_product_20 : decode (zmc m_X12_product) 20 = .ok (.aload_n 0, 1) := by decide +kernel
theorem d_X12_product_21 : decode (zmc m_X12_product) 21 = .ok (.invokevirtual 206, 3) := by decide +kernel
theorem d_X12_product_24 : decode (zmc m_X12_product) 24 = .ok (.bipush 47, 2) := by decide +kernel
theorem d_X12_product_26 : decode (zmc m_X12_product) 26 = .ok (.if_icmp .eq 12, 3) := by decide +kernel
theorem d_X12_product_29 : decode (zmc m_X12_product) 29 = .ok (.aload_n 0, 1) := by decide +kernel
theorem d_X12_product_30 : decode (zmc m_X12_product) 30 = .ok (.invokevirtual 206, 3) := by decide +kernel
theorem d_X12_product_33 : decode (zmc m_X12_product) 33 = .ok (.bipush 37, 2) := by decide +kernel
theorem d_X12_product_35 : decode (zmc m_X12_product) 35 = .ok (.if_icmp .ne 31, 3) := by decide +kernel
theorem d_X12_product_38 : decode (zmc m_X12_product) 38 = .ok (.aload_n 0, 1) := by decide +kernel
theorem d_X12_product_39 : decode (zmc m_X12_product) 39 = .ok (.invokevirtual 206, 3) := by decide +kernel
theorem d_X12_product_42 : decode (zmc m_X12_product) 42 = .ok (.istore_n 1, 1) := by decide +kernel
theorem d_X12_product_43 : decode (zmc m_X12_product) 43 = .ok (.aload_n 0, 1) := by decide +kernel
theorem d_X12_product_44 : decode (zmc m_X12_product) 44 = .ok (.dup, 1) := by decide +kernel
theorem d_X12_product_45 : decode (zmc m_X12_product) 45 = .ok (.getfield 191, 3) := by decide +kernel
theorem d_X12_product_48 : decode (zmc m_X12_product) 48 = .ok (.iconst 1, 1) := by decide +kernel
theorem d_X12_product_49 : decode (zmc m_X12_product) 49 = .ok (.iadd, 1) := by decide +kernel
theorem d_X12_product_50 : decode (zmc m_X12_product) 50 = .ok (.putfield 191, 3) := by decide +kernel
theorem d_X12_product_53 : decode (zmc m_X12_product) 53 = .ok (.aload_n 0, 1) := by decide +kernel
theorem d_X12_product_54 : decode (zmc m_X12_product) 54 = .ok (.invokevirtual 221, 3) := by decide +kernel
theorem d_X12_product_57 : decode (zmc m_X12_product) 57 = .ok (.aload_n 0, 1) := by decide +kernel
theorem d_X12_product_58 : decode (zmc m_X12_product) 58 = .ok (.iload_n 1, 1) := by decide +kernel
theorem d_X12_product_59 : decode (zmc m_X12_product) 59 = .ok (.iconst 0, 1) := by decide +kernel
theorem d_X12_product_60 : decode (zmc m_X12_product) 60 = .ok (.invokevirtual 210, 3) := by decide +kernel
theorem d_X12_product_63 : decode (zmc m_X12_product) 63 = .ok (.goto (-59), 3) := by decide +kernel
theorem d_X12_product_66 : decode (zmc m_X12_product) 66 = .ok (.return_, 1) := by decide +kernel
theorem d_X12_sum_0 : decode (zmc m_X12_sum) 0 = .ok (.aload_n 0, 1) := by decide +kernel
theorem d_X12_sum_1 : decode (zmc m_X12_sum) 1 = .ok (.invokevirtual 230, 3) := by decide +kernel
theorem d_X12_sum_4 : decode (zmc m_X12_sum) 4 = .ok (.aload_n 0, 1) := by decide +kernel
theorem d_X12_sum_5 : decode (zmc m_X12_sum) 5 = .ok (.getfield 194, 3) := by decide +kernel
theorem d_X12_sum_8 : decode (zmc m_X12_sum) 8 = .ok (.ifCond .ge 49, 3) := by decide +kernel
theorem d_X12_sum_11 : decode (zmc m_X12_sum) 11 = .ok (.aload_n 0, 1) := by decide +kernel
theorem d_X12_sum_12 : decode (zmc m_X12_sum) 12 = .ok (.invokevirtual 206, 3) := by decide +kernel
theorem d_X12_sum_15 : decode (zmc m_X12_sum) 15 = .ok (.bipush 43, 2) := by decide +kernel
theorem d_X12_sum_17 : decode (zmc m_X12_sum) 17 = .ok (.if_icmp .eq 12, 3) := by decide +kernel
theorem d_X12_sum_20 : decode (zmc m_X12_sum) 20 = .ok (.aload_n 0, 1) := by decide +kernel
theorem d_X12_sum_21 : decode (zmc m_X12_sum) 21 = .ok (.invokevirtual 206, 3) := by decide +kernel
theorem d_X12_sum_24 : decode (zmc m_X12_sum) 24 = .ok (.bipush 45, 2) := by decide +kernel
theorem d_X12_sum_26 : decode (zmc m_X12_sum) 26 = .ok (.if_icmp .ne 31, 3) := by decide +kernel
theorem d_X12_sum_29 : decode (zmc m_X12_sum) 29 = .ok (.aload_n 0, 1) := by decide +kernel
theorem d_X12_sum_30 : decode (zmc m_X12_sum) 30 = .ok (.invokevirtual 206, 3) := by decide +kernel
theorem d_X12_sum_33 : decode (zmc m_X12_sum) 33 = .ok (.istore_n 1, 1) := by decide +kernel
theorem d_X12_sum_34 : decode (zmc m_X12_sum) 34 = .ok (.aload_n 0, 1) := by decide +kernel
theorem d_X12_sum_35 : decode (zmc m_X12_sum) 35 = .ok (.dup, 1) := by decide +kernel
theorem d_X12_sum_36 : decode (zmc m_X12_sum) 36 = .ok (.getfield 191, 3) := by decide +kernel
theorem d_X12_sum_39 : decode (zmc m_X12_sum) 39 = .ok (.iconst 1, 1) := by decide +kernel
theorem d_X12_sum_40 : decode (zmc m_X12_sum) 40 = .ok (.iadd, 1) := by decide +kernel
theorem d_X12_sum_41 : decode (zmc m_X12_sum) 41 = .ok (.putfield 191, 3) := by decide +kernel
theorem d_X12_sum_44 : decode (zmc m_X12_sum) 44 = .ok (.aload_n 0, 1) := by decide +kernel
theorem d_X12_sum_45 : decode (zmc m_X12_sum) 45 = .ok (.invokevirtual 230, 3) := by decide +kernel
theorem d_X12_sum_48 : decode (zmc m_X12_sum) 48 = .ok (.aload_n 0, 1) := by decide +kernel
theorem d_X12_sum_49 : decode (zmc m_X12_sum) 49 = .ok (.iload_n 1, 1) := by decide +kernel
theorem d_X12_sum_50 : decode (zmc m_X12_sum) 50 = .ok (.iconst 0, 1) := by decide +kernel
theorem d_X12_sum_51 : decode (zmc m_X12_sum) 51 = .ok (.invokevirtual 210, 3) := by decide +kernel
theorem d_X12_sum_54 : decode (zmc m_X12_sum) 54 = .ok (.goto (-50), 3) := by decide +kernel
theorem d_X12_sum_57 : decode (zmc m_X12_sum) 57 = .ok (.return_, 1) := by decide +kernel
/-! THE REFERENCE READS A TEXT: numbers, what joins -/
def yPc (g : zG) (l : Launch) (d : Nat) (L : Nat → Nat → Int64) (fs : Nat × Nat × Option Nat) (I : Nat → Nat → Int32) (T : Nat → Int32) (m : Nat) (M : zM) (f : Nat → zRr) (o : Nat) : Prop :=
  ∀ (J : Nat → Nat → Int32) (p n : Nat), yOkS I J m p o n → zSp g l d 100 M [.ref 64] (zU J L fs) (zV (fun w => ∃ J', w = zU J' L fs ∧ yR I J T m p o n (f p) J'))
theorem yOkS_go {I J : Nat → Nat → Int32} {m p o n : Nat} (h : yOkS I J m p o n) (hp : p < m) : yOkS I (zup J 64 (zup (J 64) 22 (nI (p + 1)))) m (p + 1) o n :=
  ⟨yFrP_fld h.1 (by decide), ⟨rfl, h.2.1.2.1, h.2.1.2.2.1, h.2.1.2.2.2⟩, by have := h.2.2.1; omega, hp⟩
theorem zTi_4 {c : Int32} : zTi c = nI 4 ↔ (c = 42 ∨ c = 47 ∨ c = 37) := by
  have e : nI 4 = 4 := rfl
  unfold zTi; rw [e]; grind (splits := 24)
theorem zTi_3 {c : Int32} : zTi c = nI 3 ↔ (c = 43 ∨ c = 45) := by
  have e : nI 3 = 3 := rfl
  unfold zTi; rw [e]; grind (splits := 24)
theorem zTi_2 {c : Int32} : zTi c = nI 2 ↔ (c = 60 ∨ c = 61 ∨ c = 62) := by
  have e : nI 2 = 2 := rfl
  unfold zTi; rw [e]; grind (splits := 24)
theorem zTi_1 {c : Int32} : zTi c = nI 1 ↔ c = 38 := by
  have e : nI 1 = 1 := rfl
  unfold zTi; rw [e]; grind (splits := 24)
theorem zTi_0 {c : Int32} : zTi c = nI 0 ↔ c = 124 := by
  have e : nI 0 = 0 := rfl
  unfold zTi; rw [e]; grind (splits := 24)
theorem zTi_dg {c : Int32} (h : 48 ≤ c ∧ c ≤ 57) : zTi c = -1 := by
  unfold zTi; grind (splits := 24)
theorem zMoreJ_no {f : Nat → zRr} {T : Nat → Int32} {m : Nat} {t : Int32} {k p : Nat} {c : List zSt1} (h : ¬ zTi (zAt T m p) = t) : zMoreJ f T m t k p c = (p, some c) := by
  cases k with
  | zero => rfl
  | succ k => exact if_neg h
theorem zMoreJ_ok {f : Nat → zRr} {T : Nat → Int32} {m : Nat} {t : Int32} {k p : Nat} {c c1 : List zSt1} (h : zTi (zAt T m p) = t) (e : (f (p + 1)).2 = some c1) : zMoreJ f T m t (k + 1) p c = zMoreJ f T m t k (f (p + 1)).1 (c ++ (c1 ++ [(zAt T m p, 0)])) := by
  conv => lhs; unfold zMoreJ
  rw [if_pos h, e]
theorem yTi_ne {t : Nat} (ht : t < 5) : ¬ (-1 : Int32) = nI t := fun e => by
  have := zn_ge (k := t) (by omega)
  rw [← e] at this
  exact absurd this (by decide)
theorem zMoreJ_bad {f : Nat → zRr} {T : Nat → Int32} {m t : Nat} {k p : Nat} {c : List zSt1} (ht : t < 5) (h : zTi (zAt T m p) = nI t) (e : (f (p + 1)).2 = none ∨ yDg T m (f (p + 1)).1) : (zMoreJ f T m (nI t) (k + 1) p c).1 = (f (p + 1)).1 ∧ ((zMoreJ f T m (nI t) (k + 1) p c).2 = none ∨ yDg T m (zMoreJ f T m (nI t) (k + 1) p c).1) := by
  rcases e1 : (f (p + 1)).2 with _ | c1
  · have : zMoreJ f T m (nI t) (k + 1) p c = ((f (p + 1)).1, none) := by
      conv => lhs; unfold zMoreJ
      rw [if_pos h, e1]
    rw [this]; exact ⟨rfl, Or.inl rfl⟩
  · have dg := e.resolve_left (by rw [e1]; exact fun z => by cases z)
    rw [zMoreJ_ok h e1, zMoreJ_no (by rw [zTi_dg dg]; exact yTi_ne ht)]
    exact ⟨rfl, Or.inr dg⟩
theorem zJoinP_ok {f : Nat → zRr} {T : Nat → Int32} {m : Nat} {t : Int32} {n p : Nat} {c : List zSt1} (e : (f p).2 = some c) : zJoinP f T m t n p = zMoreJ f T m t n (f p).1 c := by
  unfold zJoinP; rw [e]
theorem zJoinP_bad {f : Nat → zRr} {T : Nat → Int32} {m t n p : Nat} (ht : t < 5) (e : (f p).2 = none ∨ yDg T m (f p).1) : (zJoinP f T m (nI t) n p).1 = (f p).1 ∧ ((zJoinP f T m (nI t) n p).2 = none ∨ yDg T m (zJoinP f T m (nI t) n p).1) := by
  rcases e1 : (f p).2 with _ | c1
  · have : zJoinP f T m (nI t) n p = ((f p).1, none) := by unfold zJoinP; rw [e1]
    rw [this]; exact ⟨rfl, Or.inl rfl⟩
  · have dg := e.resolve_left (by rw [e1]; exact fun z => by cases z)
    rw [zJoinP_ok e1, zMoreJ_no (by rw [zTi_dg dg]; exact yTi_ne ht)]
    exact ⟨rfl, Or.inr dg⟩
/-- a fault, and a step more -/
theorem yBdS_add {I J : Nat → Nat → Int32} {m p n p1 n1 r : Nat} {a b : Int32} (h : yBdS I J m (p1 + 1) n1 r) (h1 : p ≤ p1) (h2 : n1 + p ≤ n + p1) : ∃ n', J 64 25 = nI n' ∧ n' ≤ n1 + m + 1 ∧ (n1 ≤ p1 → n' ≤ m) ∧ yBdS I (yAdd J n' a b) m p n r := by
  obtain ⟨k1, k2, p', n', k3, k4, k5, k6, k7⟩ := h
  exact ⟨n', k4, by omega, fun _ => by omega, yFrP_add k1, k2, p', n' + 1, k3, rfl, by omega, k6, by omega⟩
theorem yBdS_up {I J : Nat → Nat → Int32} {m p n p1 n1 r : Nat} (h : yBdS I J m p1 n1 r) (h1 : p ≤ p1) (h2 : n1 + p ≤ n + p1) : yBdS I J m p n r := by
  obtain ⟨k1, k2, p', n', k3, k4, k5, k6, k7⟩ := h
  exact ⟨k1, k2, p', n', k3, k4, by omega, k6, by omega⟩
theorem ySg {c : Int32} (h : c ∈ ([37, 38, 42, 43, 45, 47, 60, 61, 62, 124] : List Int32)) : c.toInt8.toInt32.toInt8.toInt32 = c ∧ c = zRc c := by
  simp only [List.mem_cons, List.not_mem_nil, or_false] at h
  rcases h with rfl | rfl | rfl | rfl | rfl | rfl | rfl | rfl | rfl | rfl <;> decide
section S68
variable {g : zG} {l : Launch} {I : Nat → Nat → Int32} {T : Nat → Int32} {L : Nat → Nat → Int64} {fs : Nat × Nat × Option Nat} {m : Nat}
theorem sp_X12_product (hT : I 79 = T) (h21 : I 64 21 = nI m) (hm : m ≤ 120) {f : Nat → zRr} (hf : zGd m f) {o D : Nat} (hop : ∀ d, D ≤ d → yPc g l d L fs I T m m_X12_operand f o) {d : Nat} (hd : D + 1 ≤ d) (hd3 : 3 ≤ d) : yPc g l d L fs I T m m_X12_product (zJoinP f T m (nI 4) 120) o := by
  intro J p n hJ
  have hp := hJ.2.2.2
  have hnp := hJ.2.2.1
  have bad : ∀ J1, yBdS I J1 m p n (zJoinP f T m (nI 4) 120 p).1 → ((zJoinP f T m (nI 4) 120 p).2 = none ∨ yDg T m (zJoinP f T m (nI 4) 120 p).1) → zA g l d m_X12_product J1 L fs 4 [(0, .ref 64)] (zV (fun w => ∃ J', w = zU J' L fs ∧ yR I J T m p o n (zJoinP f T m (nI 4) 120 p) J')) := by
    intro J1 h1 h2
    refine zAloadN d_X12_product_4 rfl rfl (q := 5) rfl ?_
    refine zGetI d_X12_product_5 ff_X12_194 sh_64 (by decide) (q := 8) rfl ?_
    refine zIf_ge d_X12_product_8 (tgt := 66) (q := 11) (by decide) rfl (fun h8 => ?_) (fun h => absurd (by rw [h1.2.1.1]; exact zn_ge (by have := h1.2.1.2; omega)) h)
    refine zVret d_X12_product_66 rfl rfl ?_
    exact ⟨rfl, J1, rfl, Or.inr ⟨h2, h1⟩⟩
  have tail : ∀ s J3 n3, s.toInt8.toInt32.toInt8.toInt32 = s → J3 64 25 = nI n3 → n3 < 130 → zA g l d m_X12_product (yAdd J3 n3 s 0) L fs 4 [(0, .ref 64)] (zV (fun w => ∃ J', w = zU J' L fs ∧ yR I J T m p o n (zJoinP f T m (nI 4) 120 p) J')) → zA g l d m_X12_product J3 L fs 57 [(1, .int s), (0, .ref 64)] (zV (fun w => ∃ J', w = zU J' L fs ∧ yR I J T m p o n (zJoinP f T m (nI 4) 120 p) J')) := by
    intro s J3 n3 hs h25 h130 KK
    refine zAloadN d_X12_product_57 rfl rfl (q := 58) rfl ?_
    refine zIloadN d_X12_product_58 rfl rfl (q := 59) rfl ?_
    refine zIconst d_X12_product_59 (v := 0) ic_0 (q := 60) rfl ?_
    refine zCallVV d_X12_product_60 ml_X12_210 k_X12_addStep ki_X12_addStep ks_X12_addStep (sp_X12_addStep (d := d - 1) (by omega) h25 h130 hs) rfl rfl sh_64 (by decide) rfl (by decide) (Nat.le_of_ble_eq_true rfl) (by decide) (by omega) zns100 (q := 63) rfl (fun w' hw' => ?_)
    subst hw'
    refine zGoto d_X12_product_63 (q := 4) (by decide) ?_
    refine zSub [1] rfl ?_
    exact KK
  have loop : ∀ k J1 p1 c, yOkS I J1 m p1 o (n + c.length) → yLy J J1 n c → m ≤ p1 + k → zMoreJ f T m (nI 4) k p1 c = zJoinP f T m (nI 4) 120 p → p + c.length ≤ p1 → zA g l d m_X12_product J1 L fs 4 [(0, .ref 64)] (zV (fun w => ∃ J', w = zU J' L fs ∧ yR I J T m p o n (zJoinP f T m (nI 4) 120 p) J')) := by
    intro k
    induction k using Nat.strongRecOn with
    | ind k ih =>
    intro J1 p1 c h1 hly hk hR hpc
    have hT1 : J1 79 = T := (h1.1.1 79 (by decide) (by decide) (by decide)).trans hT
    have h211 : J1 64 21 = nI m := (h1.1.2.1 21 (by decide)).trans h21
    obtain ⟨h22, h23, h24, h25⟩ := h1.2.1
    have hpm := h1.2.2.2
    have fin : ¬ zTi (zAt T m p1) = nI 4 → ∃ J', zU J1 L fs = zU J' L fs ∧ yR I J T m p o n (zJoinP f T m (nI 4) 120 p) J' := fun hno => by
      rw [zMoreJ_no hno] at hR
      exact ⟨J1, rfl, by rw [← hR]; exact Or.inl ⟨c, rfl, h1, hly⟩⟩
    refine zAloadN d_X12_product_4 rfl rfl (q := 5) rfl ?_
    refine zGetI d_X12_product_5 ff_X12_194 sh_64 (by decide) (q := 8) rfl ?_
    refine zIf_ge d_X12_product_8 (tgt := 66) (q := 11) (by decide) rfl (fun h => absurd h (by rw [h23]; decide)) (fun h8 => ?_)
    refine zAloadN d_X12_product_11 rfl rfl (q := 12) rfl ?_
    refine zCallVP d_X12_product_12 ml_X12_206 k_X12_look ki_X12_look ks_X12_look (sp_X12_look (d := d - 1) (by omega) hT1 h211 hm h22 (by omega)) rfl rfl sh_64 (by decide) rfl (by decide) (Nat.le_of_ble_eq_true rfl) (by decide) (by omega) zns100 (q := 15) rfl ?_
    refine zBipush d_X12_product_15 (v := 42) bc_42 (q := 17) rfl ?_
    refine zIcmp_eq d_X12_product_17 (tgt := 38) (q := 20) (by decide) rfl (fun h17 => ?_) (fun h17 => ?_)
    · have hsx := zTi_4.mpr (Or.inl h17)
      have hs : zTi (zAt T m p1) = nI 4 := hsx
      have hpl := zTi_in (by decide) hs
      have hg := hf (p1 + 1) (by omega)
      obtain ⟨k', rfl⟩ : ∃ k', k = k' + 1 := ⟨k - 1, by omega⟩
      have hsg := ySg (zTi_s (by decide) hs)
      refine zAloadN d_X12_product_38 rfl rfl (q := 39) rfl ?_
      refine zCallVP d_X12_product_39 ml_X12_206 k_X12_look ki_X12_look ks_X12_look (sp_X12_look (d := d - 1) (by omega) hT1 h211 hm h22 (by omega)) rfl rfl sh_64 (by decide) rfl (by decide) (Nat.le_of_ble_eq_true rfl) (by decide) (by omega) zns100 (q := 42) rfl ?_
      refine zIstoreN d_X12_product_42 rfl (by decide) rfl (q := 43) rfl ?_
      refine zAloadN d_X12_product_43 rfl rfl (q := 44) rfl ?_
      refine zDup d_X12_product_44 rfl (q := 45) rfl ?_
      refine zGetI d_X12_product_45 ff_X12_191 sh_64 (by decide) (q := 48) rfl ?_
      refine zIconst d_X12_product_48 (v := 1) ic_1 (q := 49) rfl ?_
      refine zIadd d_X12_product_49 (q := 50) rfl ?_
      rw [h22, nI_1]
      refine zPutI d_X12_product_50 ff_X12_191 rfl rfl rfl sh_64 (by decide) (q := 53) rfl ?_
      refine zAloadN d_X12_product_53 rfl rfl (q := 54) rfl ?_
      refine zCallVV d_X12_product_54 ml_X12_221 k_X12_operand ki_X12_operand ks_X12_operand (hop (d - 1) (by omega) _ (p1 + 1) (n + c.length) (yOkS_go h1 hpl)) rfl rfl sh_64 (by decide) rfl (by decide) (Nat.le_of_ble_eq_true rfl) (by decide) (by omega) zns100 (q := 57) rfl (fun w' hw' => ?_)
      obtain ⟨J3, rfl, hr⟩ := hw'
      refine zSub [0, 1] rfl ?_
      rcases hr with ⟨c1, e1, ok, ly⟩ | ⟨e1, bd⟩
      · have e2 := zMoreJ_ok (k := k') (c := c) hs e1
        have hg3 := hg.2.2 c1 e1
        have hn2 := h1.2.2.1
        have hok := ok.2.2.2
        refine tail (zAt T m p1) J3 (n + c.length + c1.length) hsg.1 ok.2.1.2.2.2 (by omega) ?_
        have el : n + (c ++ (c1 ++ [(zAt T m p1, (0 : Int32))])).length = n + c.length + c1.length + 1 := by rw [List.length_append, List.length_append]; show n + (c.length + (c1.length + 1)) = _; omega
        refine ih k' (Nat.lt_succ_self k') _ (f (p1 + 1)).1 (c ++ (c1 ++ [(zAt T m p1, 0)])) (by rw [el]; exact yAdd_ok ⟨ok.1, ok.2.1⟩ (by omega) ok.2.2.2) ?_ (by omega) (by rw [← e2]; exact hR) (by rw [List.length_append, List.length_append]; show p + (c.length + (c1.length + 1)) ≤ _; omega)
        exact yLy_app hly (yLy_app (J1 := J3) ly (yAdd_ly hsg.2))
      · have e2 := zMoreJ_bad (k := k') (c := c) (by decide) hs e1
        rw [hR] at e2
        have hn2 := h1.2.2.1
        obtain ⟨n', q1, q2, q3, q4⟩ := yBdS_add (p := p) (n := n) (a := zAt T m p1) (b := 0) bd (by omega) (by omega)
        rw [← e2.1] at q4
        exact tail (zAt T m p1) J3 n' hsg.1 q1 (by have := q3 (by omega); omega) (bad _ q4 e2.2)
    · refine zAloadN d_X12_product_20 rfl rfl (q := 21) rfl ?_
      refine zCallVP d_X12_product_21 ml_X12_206 k_X12_look ki_X12_look ks_X12_look (sp_X12_look (d := d - 1) (by omega) hT1 h211 hm h22 (by omega)) rfl rfl sh_64 (by decide) rfl (by decide) (Nat.le_of_ble_eq_true rfl) (by decide) (by omega) zns100 (q := 24) rfl ?_
      refine zBipush d_X12_product_24 (v := 47) bc_47 (q := 26) rfl ?_
      refine zIcmp_eq d_X12_product_26 (tgt := 38) (q := 29) (by decide) rfl (fun h26 => ?_) (fun h26 => ?_)
      · have hsx := zTi_4.mpr (Or.inr (Or.inl h26))
        have hs : zTi (zAt T m p1) = nI 4 := hsx
        have hpl := zTi_in (by decide) hs
        have hg := hf (p1 + 1) (by omega)
        obtain ⟨k', rfl⟩ : ∃ k', k = k' + 1 := ⟨k - 1, by omega⟩
        have hsg := ySg (zTi_s (by decide) hs)
        refine zAloadN d_X12_product_38 rfl rfl (q := 39) rfl ?_
        refine zCallVP d_X12_product_39 ml_X12_206 k_X12_look ki_X12_look ks_X12_look (sp_X12_look (d := d - 1) (by omega) hT1 h211 hm h22 (by omega)) rfl rfl sh_64 (by decide) rfl (by decide) (Nat.le_of_ble_eq_true rfl) (by decide) (by omega) zns100 (q := 42) rfl ?_
        refine zIstoreN d_X12_product_42 rfl (by decide) rfl (q := 43) rfl ?_
        refine zAloadN d_X12_product_43 rfl rfl (q := 44) rfl ?_
        refine zDup d_X12_product_44 rfl (q := 45) rfl ?_
        refine zGetI d_X12_product_45 ff_X12_191 sh_64 (by decide) (q := 48) rfl ?_
        refine zIconst d_X12_product_48 (v := 1) ic_1 (q := 49) rfl ?_
        refine zIadd d_X12_product_49 (q := 50) rfl ?_
        rw [h22, nI_1]
        refine zPutI d_X12_product_50 ff_X12_191 rfl rfl rfl sh_64 (by decide) (q := 53) rfl ?_
        refine zAloadN d_X12_product_53 rfl rfl (q := 54) rfl ?_
        refine zCallVV d_X12_product_54 ml_X12_221 k_X12_operand ki_X12_operand ks_X12_operand (hop (d - 1) (by omega) _ (p1 + 1) (n + c.length) (yOkS_go h1 hpl)) rfl rfl sh_64 (by decide) rfl (by decide) (Nat.le_of_ble_eq_true rfl) (by decide) (by omega) zns100 (q := 57) rfl (fun w' hw' => ?_)
        obtain ⟨J3, rfl, hr⟩ := hw'
        refine zSub [0, 1] rfl ?_
        rcases hr with ⟨c1, e1, ok, ly⟩ | ⟨e1, bd⟩
        · have e2 := zMoreJ_ok (k := k') (c := c) hs e1
          have hg3 := hg.2.2 c1 e1
          have hn2 := h1.2.2.1
          have hok := ok.2.2.2
          refine tail (zAt T m p1) J3 (n + c.length + c1.length) hsg.1 ok.2.1.2.2.2 (by omega) ?_
          have el : n + (c ++ (c1 ++ [(zAt T m p1, (0 : Int32))])).length = n + c.length + c1.length + 1 := by rw [List.length_append, List.length_append]; show n + (c.length + (c1.length + 1)) = _; omega
          refine ih k' (Nat.lt_succ_self k') _ (f (p1 + 1)).1 (c ++ (c1 ++ [(zAt T m p1, 0)])) (by rw [el]; exact yAdd_ok ⟨ok.1, ok.2.1⟩ (by omega) ok.2.2.2) ?_ (by omega) (by rw [← e2]; exact hR) (by rw [List.length_append, List.length_append]; show p + (c.length + (c1.length + 1)) ≤ _; omega)
          exact yLy_app hly (yLy_app (J1 := J3) ly (yAdd_ly hsg.2))
        · have e2 := zMoreJ_bad (k := k') (c := c) (by decide) hs e1
          rw [hR] at e2
          have hn2 := h1.2.2.1
          obtain ⟨n', q1, q2, q3, q4⟩ := yBdS_add (p := p) (n := n) (a := zAt T m p1) (b := 0) bd (by omega) (by omega)
          rw [← e2.1] at q4
          exact tail (zAt T m p1) J3 n' hsg.1 q1 (by have := q3 (by omega); omega) (bad _ q4 e2.2)
      · refine zAloadN d_X12_product_29 rfl rfl (q := 30) rfl ?_
        refine zCallVP d_X12_product_30 ml_X12_206 k_X12_look ki_X12_look ks_X12_look (sp_X12_look (d := d - 1) (by omega) hT1 h211 hm h22 (by omega)) rfl rfl sh_64 (by decide) rfl (by decide) (Nat.le_of_ble_eq_true rfl) (by decide) (by omega) zns100 (q := 33) rfl ?_
        refine zBipush d_X12_product_33 (v := 37) bc_37 (q := 35) rfl ?_
        refine zIcmp_ne d_X12_product_35 (tgt := 66) (q := 38) (by decide) rfl (fun h35 => ?_) (fun h35 => ?_)
        · have hno : ¬ zTi (zAt T m p1) = nI 4 := fun z => by rcases zTi_4.mp z with y | y | y; exact h17 y; exact h26 y; exact h35 y
          refine zVret d_X12_product_66 rfl rfl ?_
          exact ⟨rfl, fin hno⟩
        · have hsx := zTi_4.mpr (Or.inr (Or.inr h35))
          have hs : zTi (zAt T m p1) = nI 4 := hsx
          have hpl := zTi_in (by decide) hs
          have hg := hf (p1 + 1) (by omega)
          obtain ⟨k', rfl⟩ : ∃ k', k = k' + 1 := ⟨k - 1, by omega⟩
          have hsg := ySg (zTi_s (by decide) hs)
          refine zAloadN d_X12_product_38 rfl rfl (q := 39) rfl ?_
          refine zCallVP d_X12_product_39 ml_X12_206 k_X12_look ki_X12_look ks_X12_look (sp_X12_look (d := d - 1) (by omega) hT1 h211 hm h22 (by omega)) rfl rfl sh_64 (by decide) rfl (by decide) (Nat.le_of_ble_eq_true rfl) (by decide) (by omega) zns100 (q := 42) rfl ?_
          refine zIstoreN d_X12_product_42 rfl (by decide) rfl (q := 43) rfl ?_
          refine zAloadN d_X12_product_43 rfl rfl (q := 44) rfl ?_
          refine zDup d_X12_product_44 rfl (q := 45) rfl ?_
          refine zGetI d_X12_product_45 ff_X12_191 sh_64 (by decide) (q := 48) rfl ?_
          refine zIconst d_X12_product_48 (v := 1) ic_1 (q := 49) rfl ?_
          refine zIadd d_X12_product_49 (q := 50) rfl ?_
          rw [h22, nI_1]
          refine zPutI d_X12_product_50 ff_X12_191 rfl rfl rfl sh_64 (by decide) (q := 53) rfl ?_
          refine zAloadN d_X12_product_53 rfl rfl (q := 54) rfl ?_
          refine zCallVV d_X12_product_54 ml_X12_221 k_X12_operand ki_X12_operand ks_X12_operand (hop (d - 1) (by omega) _ (p1 + 1) (n + c.length) (yOkS_go h1 hpl)) rfl rfl sh_64 (by decide) rfl (by decide) (Nat.le_of_ble_eq_true rfl) (by decide) (by omega) zns100 (q := 57) rfl (fun w' hw' => ?_)
          obtain ⟨J3, rfl, hr⟩ := hw'
          refine zSub [0, 1] rfl ?_
          rcases hr with ⟨c1, e1, ok, ly⟩ | ⟨e1, bd⟩
          · have e2 := zMoreJ_ok (k := k') (c := c) hs e1
            have hg3 := hg.2.2 c1 e1
            have hn2 := h1.2.2.1
            have hok := ok.2.2.2
            refine tail (zAt T m p1) J3 (n + c.length + c1.length) hsg.1 ok.2.1.2.2.2 (by omega) ?_
            have el : n + (c ++ (c1 ++ [(zAt T m p1, (0 : Int32))])).length = n + c.length + c1.length + 1 := by rw [List.length_append, List.length_append]; show n + (c.length + (c1.length + 1)) = _; omega
            refine ih k' (Nat.lt_succ_self k') _ (f (p1 + 1)).1 (c ++ (c1 ++ [(zAt T m p1, 0)])) (by rw [el]; exact yAdd_ok ⟨ok.1, ok.2.1⟩ (by omega) ok.2.2.2) ?_ (by omega) (by rw [← e2]; exact hR) (by rw [List.length_append, List.length_append]; show p + (c.length + (c1.length + 1)) ≤ _; omega)
            exact yLy_app hly (yLy_app (J1 := J3) ly (yAdd_ly hsg.2))
          · have e2 := zMoreJ_bad (k := k') (c := c) (by decide) hs e1
            rw [hR] at e2
            have hn2 := h1.2.2.1
            obtain ⟨n', q1, q2, q3, q4⟩ := yBdS_add (p := p) (n := n) (a := zAt T m p1) (b := 0) bd (by omega) (by omega)
            rw [← e2.1] at q4
            exact tail (zAt T m p1) J3 n' hsg.1 q1 (by have := q3 (by omega); omega) (bad _ q4 e2.2)
  refine zSp_of (lv := [(0, .ref 64)]) k_X12_product rfl (Nat.le_of_ble_eq_true rfl) ?_
  refine zAloadN d_X12_product_0 rfl rfl (q := 1) rfl ?_
  refine zCallVV d_X12_product_1 ml_X12_221 k_X12_operand ki_X12_operand ks_X12_operand (hop (d - 1) (by omega) J p n hJ) rfl rfl sh_64 (by decide) rfl (by decide) (Nat.le_of_ble_eq_true rfl) (by decide) (by omega) zns100 (q := 4) rfl (fun w' hw' => ?_)
  obtain ⟨J1, rfl, hr⟩ := hw'
  refine zSub [0] rfl ?_
  rcases hr with ⟨c1, e1, ok, ly⟩ | ⟨e1, bd⟩
  · have hg3 := (hf p hp).2.2 c1 e1
    exact loop 120 J1 (f p).1 c1 ok ly (by omega) (zJoinP_ok e1).symm hg3.1
  · have e2 := zJoinP_bad (n := 120) (t := 4) (by decide) e1
    rw [← e2.1] at bd
    exact bad J1 bd e2.2
theorem sp_X12_sum (hT : I 79 = T) (h21 : I 64 21 = nI m) (hm : m ≤ 120) {f : Nat → zRr} (hf : zGd m f) {o D : Nat} (hop : ∀ d, D ≤ d → yPc g l d L fs I T m m_X12_product f o) {d : Nat} (hd : D + 1 ≤ d) (hd3 : 3 ≤ d) : yPc g l d L fs I T m m_X12_sum (zJoinP f T m (nI 3) 120) o := by
  intro J p n hJ
  have hp := hJ.2.2.2
  have hnp := hJ.2.2.1
  have bad : ∀ J1, yBdS I J1 m p n (zJoinP f T m (nI 3) 120 p).1 → ((zJoinP f T m (nI 3) 120 p).2 = none ∨ yDg T m (zJoinP f T m (nI 3) 120 p).1) → zA g l d m_X12_sum J1 L fs 4 [(0, .ref 64)] (zV (fun w => ∃ J', w = zU J' L fs ∧ yR I J T m p o n (zJoinP f T m (nI 3) 120 p) J')) := by
    intro J1 h1 h2
    refine zAloadN d_X12_sum_4 rfl rfl (q := 5) rfl ?_
    refine zGetI d_X12_sum_5 ff_X12_194 sh_64 (by decide) (q := 8) rfl ?_
    refine zIf_ge d_X12_sum_8 (tgt := 57) (q := 11) (by decide) rfl (fun h8 => ?_) (fun h => absurd (by rw [h1.2.1.1]; exact zn_ge (by have := h1.2.1.2; omega)) h)
    refine zVret d_X12_sum_57 rfl rfl ?_
    exact ⟨rfl, J1, rfl, Or.inr ⟨h2, h1⟩⟩
  have tail : ∀ s J3 n3, s.toInt8.toInt32.toInt8.toInt32 = s → J3 64 25 = nI n3 → n3 < 130 → zA g l d m_X12_sum (yAdd J3 n3 s 0) L fs 4 [(0, .ref 64)] (zV (fun w => ∃ J', w = zU J' L fs ∧ yR I J T m p o n (zJoinP f T m (nI 3) 120 p) J')) → zA g l d m_X12_sum J3 L fs 48 [(1, .int s), (0, .ref 64)] (zV (fun w => ∃ J', w = zU J' L fs ∧ yR I J T m p o n (zJoinP f T m (nI 3) 120 p) J')) := by
    intro s J3 n3 hs h25 h130 KK
    refine zAloadN d_X12_sum_48 rfl rfl (q := 49) rfl ?_
    refine zIloadN d_X12_sum_49 rfl rfl (q := 50) rfl ?_
    refine zIconst d_X12_sum_50 (v := 0) ic_0 (q := 51) rfl ?_
    refine zCallVV d_X12_sum_51 ml_X12_210 k_X12_addStep ki_X12_addStep ks_X12_addStep (sp_X12_addStep (d := d - 1) (by omega) h25 h130 hs) rfl rfl sh_64 (by decide) rfl (by decide) (Nat.le_of_ble_eq_true rfl) (by decide) (by omega) zns100 (q := 54) rfl (fun w' hw' => ?_)
    subst hw'
    refine zGoto d_X12_sum_54 (q := 4) (by decide) ?_
    refine zSub [1] rfl ?_
    exact KK
  have loop : ∀ k J1 p1 c, yOkS I J1 m p1 o (n + c.length) → yLy J J1 n c → m ≤ p1 + k → zMoreJ f T m (nI 3) k p1 c = zJoinP f T m (nI 3) 120 p → p + c.length ≤ p1 → zA g l d m_X12_sum J1 L fs 4 [(0, .ref 64)] (zV (fun w => ∃ J', w = zU J' L fs ∧ yR I J T m p o n (zJoinP f T m (nI 3) 120 p) J')) := by
    intro k
    induction k using Nat.strongRecOn with
    | ind k ih =>
    intro J1 p1 c h1 hly hk hR hpc
    have hT1 : J1 79 = T := (h1.1.1 79 (by decide) (by decide) (by decide)).trans hT
    have h211 : J1 64 21 = nI m := (h1.1.2.1 21 (by decide)).trans h21
    obtain ⟨h22, h23, h24, h25⟩ := h1.2.1
    have hpm := h1.2.2.2
    have fin : ¬ zTi (zAt T m p1) = nI 3 → ∃ J', zU J1 L fs = zU J' L fs ∧ yR I J T m p o n (zJoinP f T m (nI 3) 120 p) J' := fun hno => by
      rw [zMoreJ_no hno] at hR
      exact ⟨J1, rfl, by rw [← hR]; exact Or.inl ⟨c, rfl, h1, hly⟩⟩
    refine zAloadN d_X12_sum_4 rfl rfl (q := 5) rfl ?_
    refine zGetI d_X12_sum_5 ff_X12_194 sh_64 (by decide) (q := 8) rfl ?_
    refine zIf_ge d_X12_sum_8 (tgt := 57) (q := 11) (by decide) rfl (fun h => absurd h (by rw [h23]; decide)) (fun h8 => ?_)
    refine zAloadN d_X12_sum_11 rfl rfl (q := 12) rfl ?_
    refine zCallVP d_X12_sum_12 ml_X12_206 k_X12_look ki_X12_look ks_X12_look (sp_X12_look (d := d - 1) (by omega) hT1 h211 hm h22 (by omega)) rfl rfl sh_64 (by decide) rfl (by decide) (Nat.le_of_ble_eq_true rfl) (by decide) (by omega) zns100 (q := 15) rfl ?_
    refine zBipush d_X12_sum_15 (v := 43) bc_43 (q := 17) rfl ?_
    refine zIcmp_eq d_X12_sum_17 (tgt := 29) (q := 20) (by decide) rfl (fun h17 => ?_) (fun h17 => ?_)
    · have hsx := zTi_3.mpr (Or.inl h17)
      have hs : zTi (zAt T m p1) = nI 3 := hsx
      have hpl := zTi_in (by decide) hs
      have hg := hf (p1 + 1) (by omega)
      obtain ⟨k', rfl⟩ : ∃ k', k = k' + 1 := ⟨k - 1, by omega⟩
      have hsg := ySg (zTi_s (by decide) hs)
      refine zAloadN d_X12_sum_29 rfl rfl (q := 30) rfl ?_
      refine zCallVP d_X12_sum_30 ml_X12_206 k_X12_look ki_X12_look ks_X12_look (sp_X12_look (d := d - 1) (by omega) hT1 h211 hm h22 (by omega)) rfl rfl sh_64 (by decide) rfl (by decide) (Nat.le_of_ble_eq_true rfl) (by decide) (by omega) zns100 (q := 33) rfl ?_
      refine zIstoreN d_X12_sum_33 rfl (by decide) rfl (q := 34) rfl ?_
      refine zAloadN d_X12_sum_34 rfl rfl (q := 35) rfl ?_
      refine zDup d_X12_sum_35 rfl (q := 36) rfl ?_
      refine zGetI d_X12_sum_36 ff_X12_191 sh_64 (by decide) (q := 39) rfl ?_
      refine zIconst d_X12_sum_39 (v := 1) ic_1 (q := 40) rfl ?_
      refine zIadd d_X12_sum_40 (q := 41) rfl ?_
      rw [h22, nI_1]
      refine zPutI d_X12_sum_41 ff_X12_191 rfl rfl rfl sh_64 (by decide) (q := 44) rfl ?_
      refine zAloadN d_X12_sum_44 rfl rfl (q := 45) rfl ?_
      refine zCallVV d_X12_sum_45 ml_X12_230 k_X12_product ki_X12_product ks_X12_product (hop (d - 1) (by omega) _ (p1 + 1) (n + c.length) (yOkS_go h1 hpl)) rfl rfl sh_64 (by decide) rfl (by decide) (Nat.le_of_ble_eq_true rfl) (by decide) (by omega) zns100 (q := 48) rfl (fun w' hw' => ?_)
      obtain ⟨J3, rfl, hr⟩ := hw'
      refine zSub [0, 1] rfl ?_
      rcases hr with ⟨c1, e1, ok, ly⟩ | ⟨e1, bd⟩
      · have e2 := zMoreJ_ok (k := k') (c := c) hs e1
        have hg3 := hg.2.2 c1 e1
        have hn2 := h1.2.2.1
        have hok := ok.2.2.2
        refine tail (zAt T m p1) J3 (n + c.length + c1.length) hsg.1 ok.2.1.2.2.2 (by omega) ?_
        have el : n + (c ++ (c1 ++ [(zAt T m p1, (0 : Int32))])).length = n + c.length + c1.length + 1 := by rw [List.length_append, List.length_append]; show n + (c.length + (c1.length + 1)) = _; omega
        refine ih k' (Nat.lt_succ_self k') _ (f (p1 + 1)).1 (c ++ (c1 ++ [(zAt T m p1, 0)])) (by rw [el]; exact yAdd_ok ⟨ok.1, ok.2.1⟩ (by omega) ok.2.2.2) ?_ (by omega) (by rw [← e2]; exact hR) (by rw [List.length_append, List.length_append]; show p + (c.length + (c1.length + 1)) ≤ _; omega)
        exact yLy_app hly (yLy_app (J1 := J3) ly (yAdd_ly hsg.2))
      · have e2 := zMoreJ_bad (k := k') (c := c) (by decide) hs e1
        rw [hR] at e2
        have hn2 := h1.2.2.1
        obtain ⟨n', q1, q2, q3, q4⟩ := yBdS_add (p := p) (n := n) (a := zAt T m p1) (b := 0) bd (by omega) (by omega)
        rw [← e2.1] at q4
        exact tail (zAt T m p1) J3 n' hsg.1 q1 (by have := q3 (by omega); omega) (bad _ q4 e2.2)
    · refine zAloadN d_X12_sum_20 rfl rfl (q := 21) rfl ?_
      refine zCallVP d_X12_sum_21 ml_X12_206 k_X12_look ki_X12_look ks_X12_look (sp_X12_look (d := d - 1) (by omega) hT1 h211 hm h22 (by omega)) rfl rfl sh_64 (by decide) rfl (by decide) (Nat.le_of_ble_eq_true rfl) (by decide) (by omega) zns100 (q := 24) rfl ?_
      refine zBipush d_X12_sum_24 (v := 45) bc_45 (q := 26) rfl ?_
      refine zIcmp_ne d_X12_sum_26 (tgt := 57) (q := 29) (by decide) rfl (fun h26 => ?_) (fun h26 => ?_)
      · have hno : ¬ zTi (zAt T m p1) = nI 3 := fun z => by rcases zTi_3.mp z with y | y; exact h17 y; exact h26 y
        refine zVret d_X12_sum_57 rfl rfl ?_
        exact ⟨rfl, fin hno⟩
      · have hsx := zTi_3.mpr (Or.inr h26)
        have hs : zTi (zAt T m p1) = nI 3 := hsx
        have hpl := zTi_in (by decide) hs
        have hg := hf (p1 + 1) (by omega)
        obtain ⟨k', rfl⟩ : ∃ k', k = k' + 1 := ⟨k - 1, by omega⟩
        have hsg := ySg (zTi_s (by decide) hs)
        refine zAloadN d_X12_sum_29 rfl rfl (q := 30) rfl ?_
        refine zCallVP d_X12_sum_30 ml_X12_206 k_X12_look ki_X12_look ks_X12_look (sp_X12_look (d := d - 1) (by omega) hT1 h211 hm h22 (by omega)) rfl rfl sh_64 (by decide) rfl (by decide) (Nat.le_of_ble_eq_true rfl) (by decide) (by omega) zns100 (q := 33) rfl ?_
        refine zIstoreN d_X12_sum_33 rfl (by decide) rfl (q := 34) rfl ?_
        refine zAloadN d_X12_sum_34 rfl rfl (q := 35) rfl ?_
        refine zDup d_X12_sum_35 rfl (q := 36) rfl ?_
        refine zGetI d_X12_sum_36 ff_X12_191 sh_64 (by decide) (q := 39) rfl ?_
        refine zIconst d_X12_sum_39 (v := 1) ic_1 (q := 40) rfl ?_
        refine zIadd d_X12_sum_40 (q := 41) rfl ?_
        rw [h22, nI_1]
        refine zPutI d_X12_sum_41 ff_X12_191 rfl rfl rfl sh_64 (by decide) (q := 44) rfl ?_
        refine zAloadN d_X12_sum_44 rfl rfl (q := 45) rfl ?_
        refine zCallVV d_X12_sum_45 ml_X12_230 k_X12_product ki_X12_product ks_X12_product (hop (d - 1) (by omega) _ (p1 + 1) (n + c.length) (yOkS_go h1 hpl)) rfl rfl sh_64 (by decide) rfl (by decide) (Nat.le_of_ble_eq_true rfl) (by decide) (by omega) zns100 (q := 48) rfl (fun w' hw' => ?_)
        obtain ⟨J3, rfl, hr⟩ := hw'
        refine zSub [0, 1] rfl ?_
        rcases hr with ⟨c1, e1, ok, ly⟩ | ⟨e1, bd⟩
        · have e2 := zMoreJ_ok (k := k') (c := c) hs e1
          have hg3 := hg.2.2 c1 e1
          have hn2 := h1.2.2.1
          have hok := ok.2.2.2
          refine tail (zAt T m p1) J3 (n + c.length + c1.length) hsg.1 ok.2.1.2.2.2 (by omega) ?_
          have el : n + (c ++ (c1 ++ [(zAt T m p1, (0 : Int32))])).length = n + c.length + c1.length + 1 := by rw [List.length_append, List.length_append]; show n + (c.length + (c1.length + 1)) = _; omega
          refine ih k' (Nat.lt_succ_self k') _ (f (p1 + 1)).1 (c ++ (c1 ++ [(zAt T m p1, 0)])) (by rw [el]; exact yAdd_ok ⟨ok.1, ok.2.1⟩ (by omega) ok.2.2.2) ?_ (by omega) (by rw [← e2]; exact hR) (by rw [List.length_append, List.length_append]; show p + (c.length + (c1.length + 1)) ≤ _; omega)
          exact yLy_app hly (yLy_app (J1 := J3) ly (yAdd_ly hsg.2))
        · have e2 := zMoreJ_bad (k := k') (c := c) (by decide) hs e1
          rw [hR] at e2
          have hn2 := h1.2.2.1
          obtain ⟨n', q1, q2, q3, q4⟩ := yBdS_add (p := p) (n := n) (a := zAt T m p1) (b := 0) bd (by omega) (by omega)
          rw [← e2.1] at q4
          exact tail (zAt T m p1) J3 n' hsg.1 q1 (by have := q3 (by omega); omega) (bad _ q4 e2.2)
  refine zSp_of (lv := [(0, .ref 64)]) k_X12_sum rfl (Nat.le_of_ble_eq_true rfl) ?_
  refine zAloadN d_X12_sum_0 rfl rfl (q := 1) rfl ?_
  refine zCallVV d_X12_sum_1 ml_X12_230 k_X12_product ki_X12_product ks_X12_product (hop (d - 1) (by omega) J p n hJ) rfl rfl sh_64 (by decide) rfl (by decide) (Nat.le_of_ble_eq_true rfl) (by decide) (by omega) zns100 (q := 4) rfl (fun w' hw' => ?_)
  obtain ⟨J1, rfl, hr⟩ := hw'
  refine zSub [0] rfl ?_
  rcases hr with ⟨c1, e1, ok, ly⟩ | ⟨e1, bd⟩
  · have hg3 := (hf p hp).2.2 c1 e1
    exact loop 120 J1 (f p).1 c1 ok ly (by omega) (zJoinP_ok e1).symm hg3.1
  · have e2 := zJoinP_bad (n := 120) (t := 3) (by decide) e1
    rw [← e2.1] at bd
    exact bad J1 bd e2.2
theorem sp_X12_both (hT : I 79 = T) (h21 : I 64 21 = nI m) (hm : m ≤ 120) {f : Nat → zRr} (hf : zGd m f) {o D : Nat} (hop : ∀ d, D ≤ d → yPc g l d L fs I T m m_X12_compared f o) {d : Nat} (hd : D + 1 ≤ d) (hd3 : 3 ≤ d) : yPc g l d L fs I T m m_X12_both (zJoinP f T m (nI 1) 120) o := by
  intro J p n hJ
  have hp := hJ.2.2.2
  have hnp := hJ.2.2.1
  have bad : ∀ J1, yBdS I J1 m p n (zJoinP f T m (nI 1) 120 p).1 → ((zJoinP f T m (nI 1) 120 p).2 = none ∨ yDg T m (zJoinP f T m (nI 1) 120 p).1) → zA g l d m_X12_both J1 L fs 4 [(0, .ref 64)] (zV (fun w => ∃ J', w = zU J' L fs ∧ yR I J T m p o n (zJoinP f T m (nI 1) 120 p) J')) := by
    intro J1 h1 h2
    refine zAloadN d_X12_both_4 rfl rfl (q := 5) rfl ?_
    refine zGetI d_X12_both_5 ff_X12_194 sh_64 (by decide) (q := 8) rfl ?_
    refine zIf_ge d_X12_both_8 (tgt := 44) (q := 11) (by decide) rfl (fun h8 => ?_) (fun h => absurd (by rw [h1.2.1.1]; exact zn_ge (by have := h1.2.1.2; omega)) h)
    refine zVret d_X12_both_44 rfl rfl ?_
    exact ⟨rfl, J1, rfl, Or.inr ⟨h2, h1⟩⟩
  have tail : ∀ J3 n3, J3 64 25 = nI n3 → n3 < 130 → zA g l d m_X12_both (yAdd J3 n3 38 0) L fs 4 [(0, .ref 64)] (zV (fun w => ∃ J', w = zU J' L fs ∧ yR I J T m p o n (zJoinP f T m (nI 1) 120 p) J')) → zA g l d m_X12_both J3 L fs 34 [(0, .ref 64)] (zV (fun w => ∃ J', w = zU J' L fs ∧ yR I J T m p o n (zJoinP f T m (nI 1) 120 p) J')) := by
    intro J3 n3 h25 h130 KK
    refine zAloadN d_X12_both_34 rfl rfl (q := 35) rfl ?_
    refine zBipush d_X12_both_35 (v := 38) bc_38 (q := 37) rfl ?_
    refine zIconst d_X12_both_37 (v := 0) ic_0 (q := 38) rfl ?_
    refine zCallVV d_X12_both_38 ml_X12_210 k_X12_addStep ki_X12_addStep ks_X12_addStep (sp_X12_addStep (d := d - 1) (by omega) h25 h130 (by decide)) rfl rfl sh_64 (by decide) rfl (by decide) (Nat.le_of_ble_eq_true rfl) (by decide) (by omega) zns100 (q := 41) rfl (fun w' hw' => ?_)
    subst hw'
    refine zGoto d_X12_both_41 (q := 4) (by decide) ?_
    refine zSub [0] rfl ?_
    exact KK
  have loop : ∀ k J1 p1 c, yOkS I J1 m p1 o (n + c.length) → yLy J J1 n c → m ≤ p1 + k → zMoreJ f T m (nI 1) k p1 c = zJoinP f T m (nI 1) 120 p → p + c.length ≤ p1 → zA g l d m_X12_both J1 L fs 4 [(0, .ref 64)] (zV (fun w => ∃ J', w = zU J' L fs ∧ yR I J T m p o n (zJoinP f T m (nI 1) 120 p) J')) := by
    intro k
    induction k using Nat.strongRecOn with
    | ind k ih =>
    intro J1 p1 c h1 hly hk hR hpc
    have hT1 : J1 79 = T := (h1.1.1 79 (by decide) (by decide) (by decide)).trans hT
    have h211 : J1 64 21 = nI m := (h1.1.2.1 21 (by decide)).trans h21
    obtain ⟨h22, h23, h24, h25⟩ := h1.2.1
    have hpm := h1.2.2.2
    have fin : ¬ zTi (zAt T m p1) = nI 1 → ∃ J', zU J1 L fs = zU J' L fs ∧ yR I J T m p o n (zJoinP f T m (nI 1) 120 p) J' := fun hno => by
      rw [zMoreJ_no hno] at hR
      exact ⟨J1, rfl, by rw [← hR]; exact Or.inl ⟨c, rfl, h1, hly⟩⟩
    refine zAloadN d_X12_both_4 rfl rfl (q := 5) rfl ?_
    refine zGetI d_X12_both_5 ff_X12_194 sh_64 (by decide) (q := 8) rfl ?_
    refine zIf_ge d_X12_both_8 (tgt := 44) (q := 11) (by decide) rfl (fun h => absurd h (by rw [h23]; decide)) (fun h8 => ?_)
    refine zAloadN d_X12_both_11 rfl rfl (q := 12) rfl ?_
    refine zCallVP d_X12_both_12 ml_X12_206 k_X12_look ki_X12_look ks_X12_look (sp_X12_look (d := d - 1) (by omega) hT1 h211 hm h22 (by omega)) rfl rfl sh_64 (by decide) rfl (by decide) (Nat.le_of_ble_eq_true rfl) (by decide) (by omega) zns100 (q := 15) rfl ?_
    refine zBipush d_X12_both_15 (v := 38) bc_38 (q := 17) rfl ?_
    refine zIcmp_ne d_X12_both_17 (tgt := 44) (q := 20) (by decide) rfl (fun h17 => ?_) (fun h17 => ?_)
    · have hno : ¬ zTi (zAt T m p1) = nI 1 := fun z => h17 (zTi_1.mp z)
      refine zVret d_X12_both_44 rfl rfl ?_
      exact ⟨rfl, fin hno⟩
    · have hz : zAt T m p1 = 38 := h17
      have hs : zTi (zAt T m p1) = nI 1 := zTi_1.mpr hz
      have hpl := zTi_in (by decide) hs
      have hg := hf (p1 + 1) (by omega)
      obtain ⟨k', rfl⟩ : ∃ k', k = k' + 1 := ⟨k - 1, by omega⟩
      have hsg := ySg (zTi_s (by decide) hs)
      refine zAloadN d_X12_both_20 rfl rfl (q := 21) rfl ?_
      refine zDup d_X12_both_21 rfl (q := 22) rfl ?_
      refine zGetI d_X12_both_22 ff_X12_191 sh_64 (by decide) (q := 25) rfl ?_
      refine zIconst d_X12_both_25 (v := 1) ic_1 (q := 26) rfl ?_
      refine zIadd d_X12_both_26 (q := 27) rfl ?_
      rw [h22, nI_1]
      refine zPutI d_X12_both_27 ff_X12_191 rfl rfl rfl sh_64 (by decide) (q := 30) rfl ?_
      refine zAloadN d_X12_both_30 rfl rfl (q := 31) rfl ?_
      refine zCallVV d_X12_both_31 ml_X12_236 k_X12_compared ki_X12_compared ks_X12_compared (hop (d - 1) (by omega) _ (p1 + 1) (n + c.length) (yOkS_go h1 hpl)) rfl rfl sh_64 (by decide) rfl (by decide) (Nat.le_of_ble_eq_true rfl) (by decide) (by omega) zns100 (q := 34) rfl (fun w' hw' => ?_)
      obtain ⟨J3, rfl, hr⟩ := hw'
      refine zSub [0] rfl ?_
      rcases hr with ⟨c1, e1, ok, ly⟩ | ⟨e1, bd⟩
      · have e2 := zMoreJ_ok (k := k') (c := c) hs e1
        have hg3 := hg.2.2 c1 e1
        have hn2 := h1.2.2.1
        have hok := ok.2.2.2
        refine tail J3 (n + c.length + c1.length) ok.2.1.2.2.2 (by omega) ?_
        have el : n + (c ++ (c1 ++ [(zAt T m p1, (0 : Int32))])).length = n + c.length + c1.length + 1 := by rw [List.length_append, List.length_append]; show n + (c.length + (c1.length + 1)) = _; omega
        refine ih k' (Nat.lt_succ_self k') _ (f (p1 + 1)).1 (c ++ (c1 ++ [(zAt T m p1, 0)])) (by rw [el]; exact yAdd_ok ⟨ok.1, ok.2.1⟩ (by omega) ok.2.2.2) ?_ (by omega) (by rw [← e2]; exact hR) (by rw [List.length_append, List.length_append]; show p + (c.length + (c1.length + 1)) ≤ _; omega)
        exact yLy_app hly (yLy_app (J1 := J3) ly (yAdd_ly (by rw [hz]; decide)))
      · have e2 := zMoreJ_bad (k := k') (c := c) (by decide) hs e1
        rw [hR] at e2
        have hn2 := h1.2.2.1
        obtain ⟨n', q1, q2, q3, q4⟩ := yBdS_add (p := p) (n := n) (a := 38) (b := 0) bd (by omega) (by omega)
        rw [← e2.1] at q4
        exact tail J3 n' q1 (by have := q3 (by omega); omega) (bad _ q4 e2.2)
  refine zSp_of (lv := [(0, .ref 64)]) k_X12_both rfl (Nat.le_of_ble_eq_true rfl) ?_
  refine zAloadN d_X12_both_0 rfl rfl (q := 1) rfl ?_
  refine zCallVV d_X12_both_1 ml_X12_236 k_X12_compared ki_X12_compared ks_X12_compared (hop (d - 1) (by omega) J p n hJ) rfl rfl sh_64 (by decide) rfl (by decide) (Nat.le_of_ble_eq_true rfl) (by decide) (by omega) zns100 (q := 4) rfl (fun w' hw' => ?_)
  obtain ⟨J1, rfl, hr⟩ := hw'
  refine zSub [0] rfl ?_
  rcases hr with ⟨c1, e1, ok, ly⟩ | ⟨e1, bd⟩
  · have hg3 := (hf p hp).2.2 c1 e1
    exact loop 120 J1 (f p).1 c1 ok ly (by omega) (zJoinP_ok e1).symm hg3.1
  · have e2 := zJoinP_bad (n := 120) (t := 1) (by decide) e1
    rw [← e2.1] at bd
    exact bad J1 bd e2.2
theorem sp_X12_either (hT : I 79 = T) (h21 : I 64 21 = nI m) (hm : m ≤ 120) {f : Nat → zRr} (hf : zGd m f) {o D : Nat} (hop : ∀ d, D ≤ d → yPc g l d L fs I T m m_X12_both f o) {d : Nat} (hd : D + 1 ≤ d) (hd3 : 3 ≤ d) : yPc g l d L fs I T m m_X12_either (zJoinP f T m (nI 0) 120) o := by
  intro J p n hJ
  have hp := hJ.2.2.2
  have hnp := hJ.2.2.1
  have bad : ∀ J1, yBdS I J1 m p n (zJoinP f T m (nI 0) 120 p).1 → ((zJoinP f T m (nI 0) 120 p).2 = none ∨ yDg T m (zJoinP f T m (nI 0) 120 p).1) → zA g l d m_X12_either J1 L fs 4 [(0, .ref 64)] (zV (fun w => ∃ J', w = zU J' L fs ∧ yR I J T m p o n (zJoinP f T m (nI 0) 120 p) J')) := by
    intro J1 h1 h2
    refine zAloadN d_X12_either_4 rfl rfl (q := 5) rfl ?_
    refine zGetI d_X12_either_5 ff_X12_194 sh_64 (by decide) (q := 8) rfl ?_
    refine zIf_ge d_X12_either_8 (tgt := 44) (q := 11) (by decide) rfl (fun h8 => ?_) (fun h => absurd (by rw [h1.2.1.1]; exact zn_ge (by have := h1.2.1.2; omega)) h)
    refine zVret d_X12_either_44 rfl rfl ?_
    exact ⟨rfl, J1, rfl, Or.inr ⟨h2, h1⟩⟩
  have tail : ∀ J3 n3, J3 64 25 = nI n3 → n3 < 130 → zA g l d m_X12_either (yAdd J3 n3 124 0) L fs 4 [(0, .ref 64)] (zV (fun w => ∃ J', w = zU J' L fs ∧ yR I J T m p o n (zJoinP f T m (nI 0) 120 p) J')) → zA g l d m_X12_either J3 L fs 34 [(0, .ref 64)] (zV (fun w => ∃ J', w = zU J' L fs ∧ yR I J T m p o n (zJoinP f T m (nI 0) 120 p) J')) := by
    intro J3 n3 h25 h130 KK
    refine zAloadN d_X12_either_34 rfl rfl (q := 35) rfl ?_
    refine zBipush d_X12_either_35 (v := 124) bc_124 (q := 37) rfl ?_
    refine zIconst d_X12_either_37 (v := 0) ic_0 (q := 38) rfl ?_
    refine zCallVV d_X12_either_38 ml_X12_210 k_X12_addStep ki_X12_addStep ks_X12_addStep (sp_X12_addStep (d := d - 1) (by omega) h25 h130 (by decide)) rfl rfl sh_64 (by decide) rfl (by decide) (Nat.le_of_ble_eq_true rfl) (by decide) (by omega) zns100 (q := 41) rfl (fun w' hw' => ?_)
    subst hw'
    refine zGoto d_X12_either_41 (q := 4) (by decide) ?_
    refine zSub [0] rfl ?_
    exact KK
  have loop : ∀ k J1 p1 c, yOkS I J1 m p1 o (n + c.length) → yLy J J1 n c → m ≤ p1 + k → zMoreJ f T m (nI 0) k p1 c = zJoinP f T m (nI 0) 120 p → p + c.length ≤ p1 → zA g l d m_X12_either J1 L fs 4 [(0, .ref 64)] (zV (fun w => ∃ J', w = zU J' L fs ∧ yR I J T m p o n (zJoinP f T m (nI 0) 120 p) J')) := by
    intro k
    induction k using Nat.strongRecOn with
    | ind k ih =>
    intro J1 p1 c h1 hly hk hR hpc
    have hT1 : J1 79 = T := (h1.1.1 79 (by decide) (by decide) (by decide)).trans hT
    have h211 : J1 64 21 = nI m := (h1.1.2.1 21 (by decide)).trans h21
    obtain ⟨h22, h23, h24, h25⟩ := h1.2.1
    have hpm := h1.2.2.2
    have fin : ¬ zTi (zAt T m p1) = nI 0 → ∃ J', zU J1 L fs = zU J' L fs ∧ yR I J T m p o n (zJoinP f T m (nI 0) 120 p) J' := fun hno => by
      rw [zMoreJ_no hno] at hR
      exact ⟨J1, rfl, by rw [← hR]; exact Or.inl ⟨c, rfl, h1, hly⟩⟩
    refine zAloadN d_X12_either_4 rfl rfl (q := 5) rfl ?_
    refine zGetI d_X12_either_5 ff_X12_194 sh_64 (by decide) (q := 8) rfl ?_
    refine zIf_ge d_X12_either_8 (tgt := 44) (q := 11) (by decide) rfl (fun h => absurd h (by rw [h23]; decide)) (fun h8 => ?_)
    refine zAloadN d_X12_either_11 rfl rfl (q := 12) rfl ?_
    refine zCallVP d_X12_either_12 ml_X12_206 k_X12_look ki_X12_look ks_X12_look (sp_X12_look (d := d - 1) (by omega) hT1 h211 hm h22 (by omega)) rfl rfl sh_64 (by decide) rfl (by decide) (Nat.le_of_ble_eq_true rfl) (by decide) (by omega) zns100 (q := 15) rfl ?_
    refine zBipush d_X12_either_15 (v := 124) bc_124 (q := 17) rfl ?_
    refine zIcmp_ne d_X12_either_17 (tgt := 44) (q := 20) (by decide) rfl (fun h17 => ?_) (fun h17 => ?_)
    · have hno : ¬ zTi (zAt T m p1) = nI 0 := fun z => h17 (zTi_0.mp z)
      refine zVret d_X12_either_44 rfl rfl ?_
      exact ⟨rfl, fin hno⟩
    · have hz : zAt T m p1 = 124 := h17
      have hs : zTi (zAt T m p1) = nI 0 := zTi_0.mpr hz
      have hpl := zTi_in (by decide) hs
      have hg := hf (p1 + 1) (by omega)
      obtain ⟨k', rfl⟩ : ∃ k', k = k' + 1 := ⟨k - 1, by omega⟩
      have hsg := ySg (zTi_s (by decide) hs)
      refine zAloadN d_X12_either_20 rfl rfl (q := 21) rfl ?_
      refine zDup d_X12_either_21 rfl (q := 22) rfl ?_
      refine zGetI d_X12_either_22 ff_X12_191 sh_64 (by decide) (q := 25) rfl ?_
      refine zIconst d_X12_either_25 (v := 1) ic_1 (q := 26) rfl ?_
      refine zIadd d_X12_either_26 (q := 27) rfl ?_
      rw [h22, nI_1]
      refine zPutI d_X12_either_27 ff_X12_191 rfl rfl rfl sh_64 (by decide) (q := 30) rfl ?_
      refine zAloadN d_X12_either_30 rfl rfl (q := 31) rfl ?_
      refine zCallVV d_X12_either_31 ml_X12_239 k_X12_both ki_X12_both ks_X12_both (hop (d - 1) (by omega) _ (p1 + 1) (n + c.length) (yOkS_go h1 hpl)) rfl rfl sh_64 (by decide) rfl (by decide) (Nat.le_of_ble_eq_true rfl) (by decide) (by omega) zns100 (q := 34) rfl (fun w' hw' => ?_)
      obtain ⟨J3, rfl, hr⟩ := hw'
      refine zSub [0] rfl ?_
      rcases hr with ⟨c1, e1, ok, ly⟩ | ⟨e1, bd⟩
      · have e2 := zMoreJ_ok (k := k') (c := c) hs e1
        have hg3 := hg.2.2 c1 e1
        have hn2 := h1.2.2.1
        have hok := ok.2.2.2
        refine tail J3 (n + c.length + c1.length) ok.2.1.2.2.2 (by omega) ?_
        have el : n + (c ++ (c1 ++ [(zAt T m p1, (0 : Int32))])).length = n + c.length + c1.length + 1 := by rw [List.length_append, List.length_append]; show n + (c.length + (c1.length + 1)) = _; omega
        refine ih k' (Nat.lt_succ_self k') _ (f (p1 + 1)).1 (c ++ (c1 ++ [(zAt T m p1, 0)])) (by rw [el]; exact yAdd_ok ⟨ok.1, ok.2.1⟩ (by omega) ok.2.2.2) ?_ (by omega) (by rw [← e2]; exact hR) (by rw [List.length_append, List.length_append]; show p + (c.length + (c1.length + 1)) ≤ _; omega)
        exact yLy_app hly (yLy_app (J1 := J3) ly (yAdd_ly (by rw [hz]; decide)))
      · have e2 := zMoreJ_bad (k := k') (c := c) (by decide) hs e1
        rw [hR] at e2
        have hn2 := h1.2.2.1
        obtain ⟨n', q1, q2, q3, q4⟩ := yBdS_add (p := p) (n := n) (a := 124) (b := 0) bd (by omega) (by omega)
        rw [← e2.1] at q4
        exact tail J3 n' q1 (by have := q3 (by omega); omega) (bad _ q4 e2.2)
  refine zSp_of (lv := [(0, .ref 64)]) k_X12_either rfl (Nat.le_of_ble_eq_true rfl) ?_
  refine zAloadN d_X12_either_0 rfl rfl (q := 1) rfl ?_
  refine zCallVV d_X12_either_1 ml_X12_239 k_X12_both ki_X12_both ks_X12_both (hop (d - 1) (by omega) J p n hJ) rfl rfl sh_64 (by decide) rfl (by decide) (Nat.le_of_ble_eq_true rfl) (by decide) (by omega) zns100 (q := 4) rfl (fun w' hw' => ?_)
  obtain ⟨J1, rfl, hr⟩ := hw'
  refine zSub [0] rfl ?_
  rcases hr with ⟨c1, e1, ok, ly⟩ | ⟨e1, bd⟩
  · have hg3 := (hf p hp).2.2 c1 e1
    exact loop 120 J1 (f p).1 c1 ok ly (by omega) (zJoinP_ok e1).symm hg3.1
  · have e2 := zJoinP_bad (n := 120) (t := 0) (by decide) e1
    rw [← e2.1] at bd
    exact bad J1 bd e2.2
end S68

