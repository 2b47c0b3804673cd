theorem d_X10_add_0 : decode (zmc m_X10_add) 0 = .ok (.aload_n 0, 1) := by decide +kernel
theorem d_X10_add_1 : decode (zmc m_X10_add) 1 = .ok (.getfield 15, 3) := by decide +kernel
theorem d_X10_add_4 : decode (zmc m_X10_add) 4 = .ok (.bipush 120, 2) := by decide +kernel
theorem d_X10_add_6 : decode (zmc m_X10_add) 6 = .ok (.if_icmp .lt 6, 3) := by decide +kernel
theorem d_X10_add_9 : decode (zmc m_X10_add) 9 = .ok (.bipush (-3), 2) := by decide +kernel
theorem d_X10_add_11 : decode (zmc m_X10_add) 11 = .ok (.ireturn, 1) := by decide +kernel
theorem d_X10_add_12 : decode (zmc m_X10_add) 12 = .ok (.aload_n 0, 1) := by decide +kernel
theorem d_X10_add_13 : decode (zmc m_X10_add) 13 = .ok (.getfield 11, 3) := by decide +kernel
theorem d_X10_add_16 : decode (zmc m_X10_add) 16 = .ok (.aload_n 0, 1) := by decide +kernel
theorem d_X10_add_17 : decode (zmc m_X10_add) 17 = .ok (.getfield 15, 3) := by decide +kernel
theorem d_X10_add_20 : decode (zmc m_X10_add) 20 = .ok (.iload_n 1, 1) := by decide +kernel
theorem d_X10_add_21 : decode (zmc m_X10_add) 21 = .ok (.iastore, 1) := by decide +kernel
theorem d_X10_add_22 : decode (zmc m_X10_add) 22 = .ok (.aload_n 0, 1) := by decide +kernel
theorem d_X10_add_23 : decode (zmc m_X10_add) 23 = .ok (.dup, 1) := by decide +kernel
theorem d_X10_add_24 : decode (zmc m_X10_add) 24 = .ok (.getfield 15, 3) := by decide +kernel
theorem d_X10_add_27 : decode (zmc m_X10_add) 27 = .ok (.iconst 1, 1) := by decide +kernel
theorem d_X10_add_28 : decode (zmc m_X10_add) 28 = .ok (.iadd, 1) := by decide +kernel
theorem d_X10_add_29 : decode (zmc m_X10_add) 29 = .ok (.putfield 15, 3) := by decide +kernel
theorem d_X10_add_32 : decode (zmc m_X10_add) 32 = .ok (.aload_n 0, 1) := by decide +kernel
theorem d_X10_add_33 : decode (zmc m_X10_add) 33 = .ok (.getfield 15, 3) := by decide +kernel
theorem d_X10_add_36 : decode (zmc m_X10_add) 36 = .ok (.ireturn, 1) := by decide +kernel
theorem d_X10_clear_0 : decode (zmc m_X10_clear) 0 = .ok (.aload_n 0, 1) := by decide +kernel
theorem d_X10_clear_1 : decode (zmc m_X10_clear) 1 = .ok (.iconst 0, 1) := by decide +kernel
theorem d_X10_clear_2 : decode (zmc m_X10_clear) 2 = .ok (.putfield 15, 3) := by decide +kernel
theorem d_X10_clear_5 : decode (zmc m_X10_clear) 5 = .ok (.return_, 1) := by decide +kernel
theorem d_X10_here_0 : decode (zmc m_X10_here) 0 = .ok (.aload_n 0, 1) := by decide +kernel
theorem d_X10_here_1 : decode (zmc m_X10_here) 1 = .ok (.getfield 28, 3) := by decide +kernel
theorem d_X10_here_4 : decode (zmc m_X10_here) 4 = .ok (.aload_n 0, 1) := by decide +kernel
theorem d_X10_here_5 : decode (zmc m_X10_here) 5 = .ok (.getfield 15, 3) := by decide +kernel
theorem d_X10_here_8 : decode (zmc m_X10_here) 8 = .ok (.if_icmp .ge 24, 3) := by decide +kernel
theorem d_X10_here_11 : decode (zmc m_X10_here) 11 = .ok (.aload_n 0, 1) := by decide +kernel
theorem d_X10_here_12 : decode (zmc m_X10_here) 12 = .ok (.getfield 28, 3) := by decide +kernel
theorem d_X10_here_15 : decode (zmc m_X10_here) 15 = .ok (.bipush 120, 2) := by decide +kernel
theorem d_X10_here_17 : decode (zmc m_X10_here) 17 = .ok (.if_icmp .ge 15, 3) := by decide +kernel
theorem d_X10_here_20 : decode (zmc m_X10_here) 20 = .ok (.aload_n 0, 1) := by decide +kernel
theorem d_X10_here_21 : decode (zmc m_X10_here) 21 = .ok (.getfield 11, 3) := by decide +kernel
theorem d_X10_here_24 : decode (zmc m_X10_here) 24 = .ok (.aload_n 0, 1) := by decide +kernel
theorem d_X10_here_25 : decode (zmc m_X10_here) 25 = .ok (.getfield 28, 3) := by decide +kernel
theorem d_X10_here_28 : decode (zmc m_X10_here) 28 = .ok (.iaload, 1) := by decide +kernel
theorem d_X10_here_29 : decode (zmc m_X10_here) 29 = .ok (.goto 4, 3) := by decide +kernel
theorem d_X10_here_32 : decode (zmc m_X10_here) 32 = .ok (.iconst (-1), 1) := by decide +kernel
theorem d_X10_here_33 : decode (zmc m_X10_here) 33 = .ok (.ireturn, 1) := by decide +kernel
theorem d_X10_isDigit_0 : decode (zmc m_X10_isDigit) 0 = .ok (.iload_n 0, 1) := by decide +kernel
theorem d_X10_isDigit_1 : decode (zmc m_X10_isDigit) 1 = .ok (.bipush 48, 2) := by decide +kernel
theorem d_X10_isDigit_3 : decode (zmc m_X10_isDigit) 3 = .ok (.if_icmp .lt 13, 3) := by decide +kernel
theorem d_X10_isDigit_6 : decode (zmc m_X10_isDigit) 6 = .ok (.iload_n 0, 1) := by decide +kernel
theorem d_X10_isDigit_7 : decode (zmc m_X10_isDigit) 7 = .ok (.bipush 57, 2) := by decide +kernel
theorem d_X10_isDigit_9 : decode (zmc m_X10_isDigit) 9 = .ok (.if_icmp .gt 7, 3) := by decide +kernel
theorem d_X10_isDigit_12 : decode (zmc m_X10_isDigit) 12 = .ok (.iconst 1, 1) := by decide +kernel
theorem d_X10_isDigit_13 : decode (zmc m_X10_isDigit) 13 = .ok (.goto 4, 3) := by decide +kernel
theorem d_X10_isDigit_16 : decode (zmc m_X10_isDigit) 16 = .ok (.iconst 0, 1) := by decide +kernel
theorem d_X10_isDigit_17 : decode (zmc m_X10_isDigit) 17 = .ok (.ireturn, 1) := by decide +kernel
theorem d_X10_nameOf_0 : decode (zmc m_X10_nameOf) 0 = .ok (.iload_n 0, 1) := by decide +kernel
theorem d_X10_nameOf_1 : decode (zmc m_X10_nameOf) 1 = .ok (.lookupswitch 71 #[(97, 67), (98, 63), (102, 59), (109, 69), (115, 61), (121, 65)], 59) := by decide +kernel
theorem d_X10_nameOf_60 : decode (zmc m_X10_nameOf) 60 = .ok (.iconst 0, 1) := by decide +kernel
theorem d_X10_nameOf_61 : decode (zmc m_X10_nameOf) 61 = .ok (.ireturn, 1) := by decide +kernel
theorem d_X10_nameOf_62 : decode (zmc m_X10_nameOf) 62 = .ok (.iconst 1, 1) := by decide +kernel
theorem d_X10_nameOf_63 : decode (zmc m_X10_nameOf) 63 = .ok (.ireturn, 1) := by decide +kernel
theorem d_X10_nameOf_64 : decode (zmc m_X10_nameOf) 64 = .ok (.iconst 2, 1) := by decide +kernel
theorem d_X10_nameOf_65 : decode (zmc m_X10_nameOf) 65 = .ok (.ireturn, 1) := by decide +kernel
theorem d_X10_nameOf_66 : decode (zmc m_X10_nameOf) 66 = .ok (.iconst 3, 1) := by decide +kernel
theorem d_X10_nameOf_67 : decode (zmc m_X10_nameOf) 67 = .ok (.ireturn, 1) := by decide +kernel
theorem d_X10_nameOf_68 : decode (zmc m_X10_nameOf) 68 = .ok (.iconst 4, 1) := by decide +kernel
theorem d_X10_nameOf_69 : decode (zmc m_X10_nameOf) 69 = .ok (.ireturn, 1) := by decide +kernel
theorem d_X10_nameOf_70 : decode (zmc m_X10_nameOf) 70 = .ok (.iconst 5, 1) := by decide +kernel
theorem d_X10_nameOf_71 : decode (zmc m_X10_nameOf) 71 = .ok (.ireturn, 1) := by decide +kernel
theorem d_X10_nameOf_72 : decode (zmc m_X10_nameOf) 72 = .ok (.iconst (-1), 1) := by decide +kernel
theorem d_X10_nameOf_73 : decode (zmc m_X10_nameOf) 73 = .ok (.ireturn, 1) := by decide +kernel
theorem d_X10_readNumber_0 : decode (zmc m_X10_readNumber) 0 = .ok (.iconst 0, 1) := by decide +kernel
theorem d_X10_readNumber_1 : decode (zmc m_X10_readNumber) 1 = .ok (.istore_n 1, 1) := by decide +kernel
theorem d_X10_readNumber_2 : decode (zmc m_X10_readNumber) 2 = .ok (.iconst 0, 1) := by decide +kernel
theorem d_X10_readNumber_3 : decode (zmc m_X10_readNumber) 3 = .ok (.istore_n 2, 1) := by decide +kernel
theorem d_X10_readNumber_4 : decode (zmc m_X10_readNumber) 4 = .ok (.iload_n 2, 1) := by decide +kernel
theorem d_X10_readNumber_5 : decode (zmc m_X10_readNumber) 5 = .ok (.iconst 4, 1) := by decide +kernel
theorem d_X10_readNumber_6 : decode (zmc m_X10_readNumber) 6 = .ok (.if_icmp .ge 42, 3) := by decide +kernel
theorem d_X10_readNumber_9 : decode (zmc m_X10_readNumber) 9 = .ok (.aload_n 0, 1) := by decide +kernel
theorem d_X10_readNumber_10 : decode (zmc m_X10_readNumber) 10 = .ok (.invokevirtual 35, 3) := by decide +kernel
theorem d_X10_readNumber_13 : decode (zmc m_X10_readNumber) 13 = .ok (.invokestatic 71, 3) := by decide +kernel
theorem d_X10_readNumber_16 : decode (zmc m_X10_readNumber) 16 = .ok (.ifCond .eq 32, 3) := by decide +kernel
theorem d_X10_readNumber_19 : decode (zmc m_X10_readNumber) 19 = .ok (.bipush 10, 2) := by decide +kernel
theorem d_X10_readNumber_21 : decode (zmc m_X10_readNumber) 21 = .ok (.iload_n 1, 1) := by decide +kernel
theorem d_X10_readNumber_22 : decode (zmc m_X10_readNumber) 22 = .ok (.imul, 1) := by decide +kernel
theorem d_X10_readNumber_23 : decode (zmc m_X10_readNumber) 23 = .ok (.aload_n 0, 1) := by decide +kernel
theorem d_X10_readNumber_24 : decode (zmc m_X10_readNumber) 24 = .ok (.invokevirtual 35, 3) := by decide +kernel
theorem d_X10_readNumber_27 : decode (zmc m_X10_readNumber) 27 = .ok (.iadd, 1) := by decide +kernel
theorem d_X10_readNumber_28 : decode (zmc m_X10_readNumber) 28 = .ok (.bipush 48, 2) := by decide +kernel
theorem d_X10_readNumber_30 : decode (zmc m_X10_readNumber) 30 = .ok (.isub, 1) := by decide +kernel
theorem d_X10_readNumber_31 : decode (zmc m_X10_readNumber) 31 = .ok (.istore_n 1, 1) := by decide +kernel
theorem d_X10_readNumber_32 : decode (zmc m_X10_readNumber) 32 = .ok (.aload_n 0, 1) := by decide +kernel
theorem d_X10_readNumber_33 : decode (zmc m_X10_readNumber) 33 = .ok (.dup, 1) := by decide +kernel
theorem d_X10_readNumber_34 : decode (zmc m_X10_readNumber) 34 = .ok (.getfield 28, 3) := by decide +kernel
theorem d_X10_readNumber_37 : decode (zmc m_X10_readNumber) 37 = .ok (.iconst 1, 1) := by decide +kernel
theorem d_X10_readNumber_38 : decode (zmc m_X10_readNumber) 38 = .ok (.iadd, 1) := by decide +kernel
theorem d_X10_readNumber_39 : decode (zmc m_X10_readNumber) 39 = .ok (.putfield 28, 3) := by decide +kernel
theorem d_X10_readNumber_42 : decode (zmc m_X10_readNumber) 42 = .ok (.iinc 2 1, 3) := by decide +kernel
theorem d_X10_readNumber_45 : decode (zmc m_X10_readNumber) 45 = .ok (.goto (-41), 3) := by decide +kernel
theorem d_X10_readNumber_48 : decode (zmc m_X10_readNumber) 48 = .ok (.aload_n 0, 1) := by decide +kernel
theorem d_X10_readNumber_49 : decode (zmc m_X10_readNumber) 49 = .ok (.getfield 24, 3) := by decide +kernel
theorem d_X10_readNumber_52 : decode (zmc m_X10_readNumber) 52 = .ok (.iconst 0, 1) := by decide +kernel
theorem d_X10_readNumber_53 : decode (zmc m_X10_readNumber) 53 = .ok (.iload_n 1, 1) := by decide +kernel
theorem d_X10_readNumber_54 : decode (zmc m_X10_readNumber) 54 = .ok (.invokevirtual 46, 3) := by decide +kernel
theorem d_X10_readNumber_57 : decode (zmc m_X10_readNumber) 57 = .ok (.return_, 1) := by decide +kernel
theorem d_X10_tightnessOf_0 : decode (zmc m_X10_tightnessOf) 0 = .ok (.iload_n 0, 1) := by decide +kernel
theorem d_X10_tightnessOf_1 : decode (zmc m_X10_tightnessOf) 1 = .ok (.lookupswitch 101 #[(37, 99), (38, 93), (42, 99), (43, 97), (45, 97), (47, 99), (60, 95), (61, 95), (62, 95), (124, 91)], 91) := by decide +kernel
theorem d_X10_tightnessOf_92 : decode (zmc m_X10_tightnessOf) 92 = .ok (.iconst 0, 1) := by decide +kernel
theorem d_X10_tightnessOf_93 : decode (zmc m_X10_tightnessOf) 93 = .ok (.ireturn, 1) := by decide +kernel
theorem d_X10_tightnessOf_94 : decode (zmc m_X10_tightnessOf) 94 = .ok (.iconst 1, 1) := by decide +kernel
theorem d_X10_tightnessOf_95 : decode (zmc m_X10_tightnessOf) 95 = .ok (.ireturn, 1) := by decide +kernel
theorem d_X10_tightnessOf_96 : decode (zmc m_X10_tightnessOf) 96 = .ok (.iconst 2, 1) := by decide +kernel
theorem d_X10_tightnessOf_97 : decode (zmc m_X10_tightnessOf) 97 = .ok (.ireturn, 1) := by decide +kernel
theorem d_X10_tightnessOf_98 : decode (zmc m_X10_tightnessOf) 98 = .ok (.iconst 3, 1) := by decide +kernel
theorem d_X10_tightnessOf_99 : decode (zmc m_X10_tightnessOf) 99 = .ok (.ireturn, 1) := by decide +kernel
theorem d_X10_tightnessOf_100 : decode (zmc m_X10_tightnessOf) 100 = .ok (.iconst 4, 1) := by decide +kernel
theorem d_X10_tightnessOf_101 : decode (zmc m_X10_tightnessOf) 101 = .ok (.ireturn, 1) := by decide +kernel
theorem d_X10_tightnessOf_102 : decode (zmc m_X10_tightnessOf) 102 = .ok (.iconst (-1), 1) := by decide +kernel
theorem d_X10_tightnessOf_103 : decode (zmc m_X10_tightnessOf) 103 = .ok (.ireturn, 1) := by decide +kernel
/-! A TEXT IS READ, BY THE MACHINE -/
/-- behind the steps c of a law h, the tape's place at p -/
def zTp (I J : Nat → Nat → Int32) (h p : Nat) (c : List zSt1) : Prop :=
  (∀ a, a ≠ 29 → a ≠ h → a ≠ h + 1 → a ≠ h + 2 → J a = I a) ∧ (∀ k, k ≠ 2 → J 29 k = I 29 k) ∧ J 29 2 = nI p ∧ J h 4 = nI c.length ∧ zLy (J (h + 1)) (J (h + 2)) 0 c ∧ ∀ k, k ≠ 4 → J h k = I h k
theorem zTp_go {I J : Nat → Nat → Int32} {h p q : Nat} {c : List zSt1} (hh : 54 ≤ h) (k : zTp I J h p c) : zTp I (zup J 29 (zup (J 29) 2 (nI q))) h q c := by
  obtain ⟨k1, k2, k3, k4, k5, k6⟩ := k
  refine ⟨fun a h1 h2 h3 h4 => by rw [zup_ne h1]; exact k1 a h1 h2 h3 h4, fun i hi => ?_, ?_, ?_, ?_, fun i hi => ?_⟩
  · rw [zup_eq, zup_ne hi]; exact k2 i hi
  · rw [zup_eq, zup_eq]
  · rw [zup_ne (by omega)]; exact k4
  · rw [zup_ne (by omega), zup_ne (by omega)]; exact k5
  · rw [zup_ne (by omega)]; exact k6 i hi
theorem zLy_end {S W : Nat → Int32} {c : List zSt1} {s v : Int32} (k : zLy S W 0 c) : zLy (zup S c.length s) (zup W c.length v) 0 (c ++ [(s, v)]) := by
  intro i x hx
  by_cases hi : i < c.length
  · rw [List.getElem?_append_left hi] at hx
    rw [zup_ne (by omega), zup_ne (by omega)]
    exact k i x hx
  · have hi2 : i < c.length + 1 := by
      have := (List.getElem?_eq_some_iff.mp hx).1
      rw [List.length_append] at this
      exact this
    have e : i = c.length := by omega
    subst e
    rw [List.getElem?_append_right (Nat.le_refl _), Nat.sub_self] at hx
    cases hx
    rw [Nat.zero_add, zup_eq, zup_eq]
    exact ⟨rfl, rfl⟩
theorem zTp_add {I J : Nat → Nat → Int32} {h p : Nat} {c : List zSt1} {s v : Int32} (hh : 54 ≤ h) (k : zTp I J h p c) :
    zTp I (zup (zup (zup J (h + 1) (zup (J (h + 1)) c.length s)) (h + 2) (zup (J (h + 2)) c.length v)) h (zup (J h) 4 (nI (c.length + 1)))) h p (c ++ [(s, v)]) := by
  obtain ⟨k1, k2, k3, k4, k5, k6⟩ := k
  refine ⟨fun a h1 h2 h3 h4 => ?_, fun i hi => ?_, ?_, ?_, ?_, fun i hi => ?_⟩
  · rw [zup_ne h2, zup_ne h4, zup_ne h3]; exact k1 a h1 h2 h3 h4
  · rw [zup_ne (by omega), zup_ne (by omega), zup_ne (by omega)]; exact k2 i hi
  · rw [zup_ne (by omega), zup_ne (by omega), zup_ne (by omega)]; exact k3
  · rw [zup_eq, zup_eq, List.length_append]; rfl
  · have e1 : (zup (zup (zup J (h + 1) (zup (J (h + 1)) c.length s)) (h + 2) (zup (J (h + 2)) c.length v)) h (zup (J h) 4 (nI (c.length + 1)))) (h + 1) = zup (J (h + 1)) c.length s := by rw [zup_ne (by omega), zup_ne (by omega), zup_eq]
    have e2 : (zup (zup (zup J (h + 1) (zup (J (h + 1)) c.length s)) (h + 2) (zup (J (h + 2)) c.length v)) h (zup (J h) 4 (nI (c.length + 1)))) (h + 2) = zup (J (h + 2)) c.length v := by rw [zup_ne (by omega), zup_eq]
    rw [e1, e2]
    exact zLy_end k5
  · rw [zup_eq, zup_ne hi]; exact k6 i hi
/-- how a part of a text came out -/
def zRx (I : Nat → Nat → Int32) (h : Nat) (c : List zSt1) (r : zRr) (x : Int32) (J : Nat → Nat → Int32) : Prop :=
  (r.2 = none ∧ x = 0 ∧ ∃ c', zTp I J h r.1 c') ∨ ∃ c', r.2 = some c' ∧ x = 1 ∧ zTp I J h r.1 (c ++ c')
theorem zRx_0 {I J : Nat → Nat → Int32} {h : Nat} {c : List zSt1} {r : zRr} {x : Int32} (k : zRx I h c r x J) (e : x = 0) : r.2 = none ∧ ∃ c', zTp I J h r.1 c' := by
  rcases k with ⟨k1, k2, k3⟩ | ⟨c', k1, k2, k3⟩
  · exact ⟨k1, k3⟩
  · rw [k2] at e; exact absurd e (by decide)
theorem zRx_1 {I J : Nat → Nat → Int32} {h : Nat} {c : List zSt1} {r : zRr} {x : Int32} (k : zRx I h c r x J) (e : ¬ x = 0) : ∃ c', r.2 = some c' ∧ zTp I J h r.1 (c ++ c') := by
  rcases k with ⟨k1, k2, k3⟩ | ⟨c', k1, k2, k3⟩
  · exact absurd k2 e
  · exact ⟨c', k1, k3⟩
theorem zRx_b {I J : Nat → Nat → Int32} {h : Nat} {c : List zSt1} {r : zRr} {x : Int32} (k : zRx I h c r x J) : x = 0 ∨ x = 1 := by
  rcases k with ⟨k1, k2, k3⟩ | ⟨c', k1, k2, k3⟩
  · exact Or.inl k2
  · exact Or.inr k2
theorem zRx_n {I J : Nat → Nat → Int32} {h : Nat} {c c' : List zSt1} {p : Nat} {r : zRr} {x : Int32} (e : r = (p, none)) (hx : x = 0) (k : zTp I J h p c') : zRx I h c r x J := by
  subst e; exact Or.inl ⟨rfl, hx, c', k⟩
theorem zRx_s {I J : Nat → Nat → Int32} {h : Nat} {c c' : List zSt1} {p : Nat} {r : zRr} {x : Int32} (e : r = (p, some c')) (hx : x = 1) (k : zTp I J h p (c ++ c')) : zRx I h c r x J := by
  subst e; exact Or.inr ⟨c', rfl, hx, k⟩
/-- a method reads as f tells -/
def zPc (g : zG) (l : Launch) (d : Nat) (I : Nat → Nat → Int32) (L : Nat → Nat → Int64) (a b h m : Nat) (M : zM) (args : List Value) (f : Nat → zRr) : Prop :=
  ∀ J p c, zTp I J h p c → c.length ≤ p → p ≤ m → zSp g l d 100 M args (zU J L (a, b, some h)) (zX (fun x w => ∃ J', w = zU J' L (a, b, some h) ∧ zRx I h c (f p) x J'))
theorem r_into {a b h : Nat} : zR (a, b, some h) 29 3 = some h := rfl
section S24
variable {g : zG} {l : Launch} {d : Nat} {I : Nat → Nat → Int32} {L : Nat → Nat → Int64} {fs : Nat × Nat × Option Nat} {a b h m : Nat}
theorem sp_X10_here (hd : 1 ≤ d) {p : Nat} (h1 : I 29 1 = nI m) (h2 : I 29 2 = nI p) (hm : m ≤ 120) (hp : p ≤ m) : zPure g l d m_X10_here [.ref 29] I L fs (.int (zAt (I 30) m p)) := by
  refine zSp_of (lv := [(0, .ref 29)]) k_X10_here rfl (Nat.le_of_ble_eq_true rfl) ?_
  refine zAloadN d_X10_here_0 rfl rfl (q := 1) rfl ?_
  refine zGetI d_X10_here_1 ff_X10_28 sh_29 (by decide) (q := 4) rfl ?_
  refine zAloadN d_X10_here_4 rfl rfl (q := 5) rfl ?_
  refine zGetI d_X10_here_5 ff_X10_15 sh_29 (by decide) (q := 8) rfl ?_
  rw [h1, h2]
  refine zIcmp_ge d_X10_here_8 (tgt := 32) (q := 11) (by decide) rfl (fun h8 => ?_) (fun h8 => ?_)
  · have hq : ¬ p < m := by have := nle h8; omega
    refine zIconst d_X10_here_32 (v := -1) ic_m1 (q := 33) rfl ?_
    refine zIret d_X10_here_33 rfl rfl rfl ?_
    exact zPi (by unfold zAt; first | exact (if_pos hq).symm | exact (if_neg hq).symm)
  · have hq : p < m := nnle h8
    refine zAloadN d_X10_here_11 rfl rfl (q := 12) rfl ?_
    refine zGetI d_X10_here_12 ff_X10_28 sh_29 (by decide) (q := 15) rfl ?_
    refine zBipush d_X10_here_15 (v := 120) bc_120 (q := 17) rfl ?_
    refine zIcmp_ge d_X10_here_17 (tgt := 32) (q := 20) (by decide) rfl (fun h => absurd h (by rw [h2]; exact nI_ge (b := 120) (by omega) (by decide))) (fun h17 => ?_)
    refine zAloadN d_X10_here_20 rfl rfl (q := 21) rfl ?_
    refine zGetR d_X10_here_21 ff_X10_11 sh_29 (by decide) r_29_0 (q := 24) rfl ?_
    refine zAloadN d_X10_here_24 rfl rfl (q := 25) rfl ?_
    refine zGetI d_X10_here_25 ff_X10_28 sh_29 (by decide) (q := 28) rfl ?_
    refine zIald d_X10_here_28 sh_30 (by decide) h2 (by omega) (q := 29) rfl ?_
    refine zGoto d_X10_here_29 (q := 33) (by decide) ?_
    refine zIret d_X10_here_33 rfl rfl rfl ?_
    exact zPi (by unfold zAt; first | exact (if_pos hq).symm | exact (if_neg hq).symm)
theorem sp_hereT (hd : 1 ≤ d) (h1 : I 29 1 = nI m) (hm : m ≤ 120) (hh : 54 ≤ h) {J : Nat → Nat → Int32} {p : Nat} {c : List zSt1} (k : zTp I J h p c) (hp : p ≤ m) : zPure g l d m_X10_here [.ref 29] J L fs (.int (zAt (I 30) m p)) := by
  have e : J 30 = I 30 := k.1 30 (by decide) (by omega) (by omega) (by omega)
  rw [← e]
  exact sp_X10_here hd ((k.2.1 1 (by decide)).trans h1) k.2.2.1 hm hp
theorem sp_X10_tightnessOf (hd : 1 ≤ d) {c : Int32} : zPure g l d m_X10_tightnessOf [.int c] I L fs (.int (zTi c)) := by
  refine zSp_of (lv := [(0, .int c)]) k_X10_tightnessOf rfl (Nat.le_of_ble_eq_true rfl) ?_
  refine zIloadN d_X10_tightnessOf_0 rfl rfl (q := 1) rfl ?_
  rcases Decidable.em (c = (37 : Int32)) with s1_37 | s1_37
  · refine zLook d_X10_tightnessOf_1 (by decide) (off := 99) (by rw [s1_37]; decide) (q := 100) (by decide) ?_
    refine zIconst d_X10_tightnessOf_100 (v := 4) ic_4 (q := 101) rfl ?_
    refine zIret d_X10_tightnessOf_101 rfl rfl rfl ?_
    exact zPi (by unfold zTi; simp_all)
  rcases Decidable.em (c = (38 : Int32)) with s1_38 | s1_38
  · refine zLook d_X10_tightnessOf_1 (by decide) (off := 93) (by rw [s1_38]; decide) (q := 94) (by decide) ?_
    refine zIconst d_X10_tightnessOf_94 (v := 1) ic_1 (q := 95) rfl ?_
    refine zIret d_X10_tightnessOf_95 rfl rfl rfl ?_
    exact zPi (by unfold zTi; simp_all)
  rcases Decidable.em (c = (42 : Int32)) with s1_42 | s1_42
  · refine zLook d_X10_tightnessOf_1 (by decide) (off := 99) (by rw [s1_42]; decide) (q := 100) (by decide) ?_
    refine zIconst d_X10_tightnessOf_100 (v := 4) ic_4 (q := 101) rfl ?_
    refine zIret d_X10_tightnessOf_101 rfl rfl rfl ?_
    exact zPi (by unfold zTi; simp_all)
  rcases Decidable.em (c = (43 : Int32)) with s1_43 | s1_43
  · refine zLook d_X10_tightnessOf_1 (by decide) (off := 97) (by rw [s1_43]; decide) (q := 98) (by decide) ?_
    refine zIconst d_X10_tightnessOf_98 (v := 3) ic_3 (q := 99) rfl ?_
    refine zIret d_X10_tightnessOf_99 rfl rfl rfl ?_
    exact zPi (by unfold zTi; simp_all)
  rcases Decidable.em (c = (45 : Int32)) with s1_45 | s1_45
  · refine zLook d_X10_tightnessOf_1 (by decide) (off := 97) (by rw [s1_45]; decide) (q := 98) (by decide) ?_
    refine zIconst d_X10_tightnessOf_98 (v := 3) ic_3 (q := 99) rfl ?_
    refine zIret d_X10_tightnessOf_99 rfl rfl rfl ?_
    exact zPi (by unfold zTi; simp_all)
  rcases Decidable.em (c = (47 : Int32)) with s1_47 | s1_47
  · refine zLook d_X10_tightnessOf_1 (by decide) (off := 99) (by rw [s1_47]; decide) (q := 100) (by decide) ?_
    refine zIconst d_X10_tightnessOf_100 (v := 4) ic_4 (q := 101) rfl ?_
    refine zIret d_X10_tightnessOf_101 rfl rfl rfl ?_
    exact zPi (by unfold zTi; simp_all)
  rcases Decidable.em (c = (60 : Int32)) with s1_60 | s1_60
  · refine zLook d_X10_tightnessOf_1 (by decide) (off := 95) (by rw [s1_60]; decide) (q := 96) (by decide) ?_
    refine zIconst d_X10_tightnessOf_96 (v := 2) ic_2 (q := 97) rfl ?_
    refine zIret d_X10_tightnessOf_97 rfl rfl rfl ?_
    exact zPi (by unfold zTi; simp_all)
  rcases Decidable.em (c = (61 : Int32)) with s1_61 | s1_61
  · refine zLook d_X10_tightnessOf_1 (by decide) (off := 95) (by rw [s1_61]; decide) (q := 96) (by decide) ?_
    refine zIconst d_X10_tightnessOf_96 (v := 2) ic_2 (q := 97) rfl ?_
    refine zIret d_X10_tightnessOf_97 rfl rfl rfl ?_
    exact zPi (by unfold zTi; simp_all)
  rcases Decidable.em (c = (62 : Int32)) with s1_62 | s1_62
  · refine zLook d_X10_tightnessOf_1 (by decide) (off := 95) (by rw [s1_62]; decide) (q := 96) (by decide) ?_
    refine zIconst d_X10_tightnessOf_96 (v := 2) ic_2 (q := 97) rfl ?_
    refine zIret d_X10_tightnessOf_97 rfl rfl rfl ?_
    exact zPi (by unfold zTi; simp_all)
  rcases Decidable.em (c = (124 : Int32)) with s1_124 | s1_124
  · refine zLook d_X10_tightnessOf_1 (by decide) (off := 91) (by rw [s1_124]; decide) (q := 92) (by decide) ?_
    refine zIconst d_X10_tightnessOf_92 (v := 0) ic_0 (q := 93) rfl ?_
    refine zIret d_X10_tightnessOf_93 rfl rfl rfl ?_
    exact zPi (by unfold zTi; simp_all)
  refine zLook d_X10_tightnessOf_1 (by decide) (off := 101) (by show Op.lookupswitch.offset [(37, 99), (38, 93), (42, 99), (43, 97), (45, 97), (47, 99), (60, 95), (61, 95), (62, 95), (124, 91)] 101 _ = _; rw [lv_osw s1_37 (by decide), lv_osw s1_38 (by decide), lv_osw s1_42 (by decide), lv_osw s1_43 (by decide), lv_osw s1_45 (by decide), lv_osw s1_47 (by decide), lv_osw s1_60 (by decide), lv_osw s1_61 (by decide), lv_osw s1_62 (by decide), lv_osw s1_124 (by decide)]; rfl) (q := 102) (by decide) ?_
  refine zIconst d_X10_tightnessOf_102 (v := -1) ic_m1 (q := 103) rfl ?_
  refine zIret d_X10_tightnessOf_103 rfl rfl rfl ?_
  exact zPi (by unfold zTi; simp_all)
theorem sp_X10_nameOf (hd : 1 ≤ d) {c : Int32} : zPure g l d m_X10_nameOf [.int c] I L fs (.int (zNm c)) := by
  refine zSp_of (lv := [(0, .int c)]) k_X10_nameOf rfl (Nat.le_of_ble_eq_true rfl) ?_
  refine zIloadN d_X10_nameOf_0 rfl rfl (q := 1) rfl ?_
  rcases Decidable.em (c = (97 : Int32)) with s1_97 | s1_97
  · refine zLook d_X10_nameOf_1 (by decide) (off := 67) (by rw [s1_97]; decide) (q := 68) (by decide) ?_
    refine zIconst d_X10_nameOf_68 (v := 4) ic_4 (q := 69) rfl ?_
    refine zIret d_X10_nameOf_69 rfl rfl rfl ?_
    exact zPi (by unfold zNm; simp_all)
  rcases Decidable.em (c = (98 : Int32)) with s1_98 | s1_98
  · refine zLook d_X10_nameOf_1 (by decide) (off := 63) (by rw [s1_98]; decide) (q := 64) (by decide) ?_
    refine zIconst d_X10_nameOf_64 (v := 2) ic_2 (q := 65) rfl ?_
    refine zIret d_X10_nameOf_65 rfl rfl rfl ?_
    exact zPi (by unfold zNm; simp_all)
  rcases Decidable.em (c = (102 : Int32)) with s1_102 | s1_102
  · refine zLook d_X10_nameOf_1 (by decide) (off := 59) (by rw [s1_102]; decide) (q := 60) (by decide) ?_
    refine zIconst d_X10_nameOf_60 (v := 0) ic_0 (q := 61) rfl ?_
    refine zIret d_X10_nameOf_61 rfl rfl rfl ?_
    exact zPi (by unfold zNm; simp_all)
  rcases Decidable.em (c = (109 : Int32)) with s1_109 | s1_109
  · refine zLook d_X10_nameOf_1 (by decide) (off := 69) (by rw [s1_109]; decide) (q := 70) (by decide) ?_
    refine zIconst d_X10_nameOf_70 (v := 5) ic_5 (q := 71) rfl ?_
    refine zIret d_X10_nameOf_71 rfl rfl rfl ?_
    exact zPi (by unfold zNm; simp_all)
  rcases Decidable.em (c = (115 : Int32)) with s1_115 | s1_115
  · refine zLook d_X10_nameOf_1 (by decide) (off := 61) (by rw [s1_115]; decide) (q := 62) (by decide) ?_
    refine zIconst d_X10_nameOf_62 (v := 1) ic_1 (q := 63) rfl ?_
    refine zIret d_X10_nameOf_63 rfl rfl rfl ?_
    exact zPi (by unfold zNm; simp_all)
  rcases Decidable.em (c = (121 : Int32)) with s1_121 | s1_121
  · refine zLook d_X10_nameOf_1 (by decide) (off := 65) (by rw [s1_121]; decide) (q := 66) (by decide) ?_
    refine zIconst d_X10_nameOf_66 (v := 3) ic_3 (q := 67) rfl ?_
    refine zIret d_X10_nameOf_67 rfl rfl rfl ?_
    exact zPi (by unfold zNm; simp_all)
  refine zLook d_X10_nameOf_1 (by decide) (off := 71) (by show Op.lookupswitch.offset [(97, 67), (98, 63), (102, 59), (109, 69), (115, 61), (121, 65)] 71 _ = _; rw [lv_osw s1_97 (by decide), lv_osw s1_98 (by decide), lv_osw s1_102 (by decide), lv_osw s1_109 (by decide), lv_osw s1_115 (by decide), lv_osw s1_121 (by decide)]; rfl) (q := 72) (by decide) ?_
  refine zIconst d_X10_nameOf_72 (v := -1) ic_m1 (q := 73) rfl ?_
  refine zIret d_X10_nameOf_73 rfl rfl rfl ?_
  exact zPi (by unfold zNm; simp_all)
theorem sp_X10_isDigit (hd : 1 ≤ d) {c : Int32} : zPure g l d m_X10_isDigit [.int c] I L fs (.int (bi (48 ≤ c ∧ c ≤ 57))) := by
  refine zSp_of (lv := [(0, .int c)]) k_X10_isDigit rfl (Nat.le_of_ble_eq_true rfl) ?_
  refine zIloadN d_X10_isDigit_0 rfl rfl (q := 1) rfl ?_
  refine zBipush d_X10_isDigit_1 (v := 48) bc_48 (q := 3) rfl ?_
  refine zIcmp_lt d_X10_isDigit_3 (tgt := 16) (q := 6) (by decide) rfl (fun h3 => ?_) (fun h3 => ?_)
  · refine zIconst d_X10_isDigit_16 (v := 0) ic_0 (q := 17) rfl ?_
    refine zIret d_X10_isDigit_17 rfl rfl rfl ?_
    exact zPi (by first | exact (bi_f (by grind)).symm | exact (bi_t (by grind)).symm)
  · refine zIloadN d_X10_isDigit_6 rfl rfl (q := 7) rfl ?_
    refine zBipush d_X10_isDigit_7 (v := 57) bc_57 (q := 9) rfl ?_
    refine zIcmp_gt d_X10_isDigit_9 (tgt := 16) (q := 12) (by decide) rfl (fun h9 => ?_) (fun h9 => ?_)
    · refine zIconst d_X10_isDigit_16 (v := 0) ic_0 (q := 17) rfl ?_
      refine zIret d_X10_isDigit_17 rfl rfl rfl ?_
      exact zPi (by first | exact (bi_f (by grind)).symm | exact (bi_t (by grind)).symm)
    · refine zIconst d_X10_isDigit_12 (v := 1) ic_1 (q := 13) rfl ?_
      refine zGoto d_X10_isDigit_13 (q := 17) (by decide) ?_
      refine zIret d_X10_isDigit_17 rfl rfl rfl ?_
      exact zPi (by first | exact (bi_f (by grind)).symm | exact (bi_t (by grind)).symm)
theorem sp_X10_add (hd : 1 ≤ d) {x : Int32} (h1 : I 29 1 = nI m) (hm : m ≤ 120) : zSp g l d 100 m_X10_add [.ref 29, .int x] (zU I L fs) (zX (fun y w => if m < 120 then y = nI (m + 1) ∧ w = zU (zup (zup I 30 (zup (I 30) m x)) 29 (zup (I 29) 1 (nI (m + 1)))) L fs else y = -3 ∧ w = zU I L fs)) := by
  refine zSp_of (lv := [(0, .ref 29), (1, .int x)]) k_X10_add rfl (Nat.le_of_ble_eq_true rfl) ?_
  refine zAloadN d_X10_add_0 rfl rfl (q := 1) rfl ?_
  refine zGetI d_X10_add_1 ff_X10_15 sh_29 (by decide) (q := 4) rfl ?_
  refine zBipush d_X10_add_4 (v := 120) bc_120 (q := 6) rfl ?_
  rw [h1]
  refine zIcmp_lt d_X10_add_6 (tgt := 12) (q := 9) (by decide) rfl (fun h6 => ?_) (fun h6 => ?_)
  · have e : m < 120 := (nI_ltI (b := 120) (by omega) (by omega)).mp h6
    refine zAloadN d_X10_add_12 rfl rfl (q := 13) rfl ?_
    refine zGetR d_X10_add_13 ff_X10_11 sh_29 (by decide) r_29_0 (q := 16) rfl ?_
    refine zAloadN d_X10_add_16 rfl rfl (q := 17) rfl ?_
    refine zGetI d_X10_add_17 ff_X10_15 sh_29 (by decide) (q := 20) rfl ?_
    refine zIloadN d_X10_add_20 rfl rfl (q := 21) rfl ?_
    refine zIast d_X10_add_21 sh_30 (by decide) h1 (by omega) (q := 22) rfl ?_
    refine zAloadN d_X10_add_22 rfl rfl (q := 23) rfl ?_
    refine zDup d_X10_add_23 rfl (q := 24) rfl ?_
    refine zGetI d_X10_add_24 ff_X10_15 sh_29 (by decide) (q := 27) rfl ?_
    refine zIconst d_X10_add_27 (v := 1) ic_1 (q := 28) rfl ?_
    refine zIadd d_X10_add_28 (q := 29) rfl ?_
    rw [show (zup I 30 (zup (I 30) m x)) 29 1 = nI m from h1, nI_1]
    refine zPutI d_X10_add_29 ff_X10_15 rfl rfl rfl sh_29 (by decide) (q := 32) rfl ?_
    refine zAloadN d_X10_add_32 rfl rfl (q := 33) rfl ?_
    refine zGetI d_X10_add_33 ff_X10_15 sh_29 (by decide) (q := 36) rfl ?_
    refine zIret d_X10_add_36 rfl rfl rfl ?_
    exact ⟨_, rfl, by show (if m < 120 then _ else _); rw [if_pos e]; exact ⟨rfl, rfl⟩⟩
  · have e : 120 ≤ m := Nat.not_lt.mp (fun q => h6 ((nI_ltI (b := 120) (by omega) (by decide)).mpr q))
    refine zBipush d_X10_add_9 (v := -3) bc_m3 (q := 11) rfl ?_
    refine zIret d_X10_add_11 rfl rfl rfl ?_
    exact ⟨_, rfl, by show (if m < 120 then _ else _); rw [if_neg (by omega)]; exact ⟨rfl, rfl⟩⟩
theorem sp_X10_clear (hd : 1 ≤ d) : zSp g l d 100 m_X10_clear [.ref 29] (zU I L fs) (zV (fun w => w = zU (zup I 29 (zup (I 29) 1 0)) L fs)) := by
  refine zSp_of (lv := [(0, .ref 29)]) k_X10_clear rfl (Nat.le_of_ble_eq_true rfl) ?_
  refine zAloadN d_X10_clear_0 rfl rfl (q := 1) rfl ?_
  refine zIconst d_X10_clear_1 (v := 0) ic_0 (q := 2) rfl ?_
  refine zPutI d_X10_clear_2 ff_X10_15 rfl rfl rfl sh_29 (by decide) (q := 5) rfl ?_
  refine zVret d_X10_clear_5 rfl rfl ?_
  exact ⟨rfl, rfl⟩
theorem sp_X10_readNumber (hd : 2 ≤ d) (h1 : I 29 1 = nI m) (hm : m ≤ 120) (hw : zLwf h) (hh : 54 ≤ h) {J : Nat → Nat → Int32} {p : Nat} {c : List zSt1} (k : zTp I J h p c) (hc : c.length ≤ p) (hp : p ≤ m) :
    zSp g l d 100 m_X10_readNumber [.ref 29] (zU J L (a, b, some h)) (zV (fun w => ∃ J', w = zU J' L (a, b, some h) ∧ zTp I J' h (p + zNd (I 30) m p) (c ++ [(0, zNv (I 30) m p (zNd (I 30) m p))]))) := by
  have loop : ∀ i, i ≤ 4 → ∀ J, zTp I J h (p + i) c → p + i ≤ m → zrun (zDgb (I 30) m p) 4 i = zNd (I 30) m p → zA g l d m_X10_readNumber J L (a, b, some h) 4 [(2, .int (nI i)), (1, .int (zNv (I 30) m p i)), (0, .ref 29)] (zV (fun w => ∃ J', w = zU J' L (a, b, some h) ∧ zTp I J' h (p + zNd (I 30) m p) (c ++ [(0, zNv (I 30) m p (zNd (I 30) m p))]))) := by
    refine zloop 4 (fun i hi ih J hJ hpm hx => ?_)
    refine zIloadN d_X10_readNumber_4 rfl rfl (q := 5) rfl ?_
    refine zIconst d_X10_readNumber_5 (v := 4) ic_4 (q := 6) rfl ?_
    refine zIcmp_ge d_X10_readNumber_6 (tgt := 48) (q := 9) (by decide) rfl (fun h6 => ?_) (fun h6 => ?_)
    · have e := nle (b := 4) h6
      have ei : i = zNd (I 30) m p := by rw [← hx, zrun_end e]
      refine zAloadN d_X10_readNumber_48 rfl rfl (q := 49) rfl ?_
      refine zGetR d_X10_readNumber_49 ff_X10_24 sh_29 (by decide) r_into (q := 52) rfl ?_
      refine zIconst d_X10_readNumber_52 (v := 0) ic_0 (q := 53) rfl ?_
      refine zIloadN d_X10_readNumber_53 rfl rfl (q := 54) rfl ?_
      refine zCallVV d_X10_readNumber_54 ml_X10_46 k_X6_add ki_X6_add ks_X6_add (sp_X6_add (d := d - 1) (by omega) hw hJ.2.2.2.1 (by omega)) rfl rfl hw.1 (by decide) rfl (zlt4 hw) (Nat.le_of_ble_eq_true rfl) (by decide) (by omega) zns100 (q := 57) rfl (fun w' hw' => ?_)
      subst hw'
      refine zVret d_X10_readNumber_57 rfl rfl ?_
      exact ⟨rfl, _, rfl, by rw [← ei]; exact zTp_add hh hJ⟩
    · have hlt := nnle (b := 4) h6
      refine zAloadN d_X10_readNumber_9 rfl rfl (q := 10) rfl ?_
      refine zCallVP d_X10_readNumber_10 ml_X10_35 k_X10_here ki_X10_here ks_X10_here (sp_hereT (d := d - 1) (h := h) (by omega) h1 hm hh hJ hpm) rfl rfl sh_29 (by decide) rfl (by decide) (Nat.le_of_ble_eq_true rfl) (by decide) (by omega) zns100 (q := 13) rfl ?_
      refine zCallSP d_X10_readNumber_13 ml_X10_71 k_X10_isDigit kt_X10_isDigit (sp_X10_isDigit (d := d - 1) (by omega) ) rfl rfl (Nat.le_of_ble_eq_true rfl) (by decide) (by omega) zns100 (q := 16) rfl ?_
      refine zIf_eq d_X10_readNumber_16 (tgt := 48) (q := 19) (by decide) rfl (fun h16 => ?_) (fun h16 => ?_)
      · have hcc : ¬ zDgb (I 30) m p i = true := by unfold zDgb; rw [decide_eq_true_eq]; exact bi_0.mp h16
        have ei : i = zNd (I 30) m p := by rw [← hx, zrun_f hcc]
        refine zAloadN d_X10_readNumber_48 rfl rfl (q := 49) rfl ?_
        refine zGetR d_X10_readNumber_49 ff_X10_24 sh_29 (by decide) r_into (q := 52) rfl ?_
        refine zIconst d_X10_readNumber_52 (v := 0) ic_0 (q := 53) rfl ?_
        refine zIloadN d_X10_readNumber_53 rfl rfl (q := 54) rfl ?_
        refine zCallVV d_X10_readNumber_54 ml_X10_46 k_X6_add ki_X6_add ks_X6_add (sp_X6_add (d := d - 1) (by omega) hw hJ.2.2.2.1 (by omega)) rfl rfl hw.1 (by decide) rfl (zlt4 hw) (Nat.le_of_ble_eq_true rfl) (by decide) (by omega) zns100 (q := 57) rfl (fun w' hw' => ?_)
        subst hw'
        refine zVret d_X10_readNumber_57 rfl rfl ?_
        exact ⟨rfl, _, rfl, by rw [← ei]; exact zTp_add hh hJ⟩
      · have hdd := bi_n0.mp h16
        have hcc : zDgb (I 30) m p i = true := by unfold zDgb; rw [decide_eq_true_eq]; exact hdd
        rw [zrun_t hlt hcc] at hx
        have hlm : p + i < m := zAt_in (fun e => by rw [e] at hdd; exact absurd hdd (by decide))
        refine zBipush d_X10_readNumber_19 (v := 10) bc_10 (q := 21) rfl ?_
        refine zIloadN d_X10_readNumber_21 rfl rfl (q := 22) rfl ?_
        refine zImul d_X10_readNumber_22 (q := 23) rfl ?_
        refine zAloadN d_X10_readNumber_23 rfl rfl (q := 24) rfl ?_
        refine zCallVP d_X10_readNumber_24 ml_X10_35 k_X10_here ki_X10_here ks_X10_here (sp_hereT (d := d - 1) (h := h) (by omega) h1 hm hh hJ hpm) rfl rfl sh_29 (by decide) rfl (by decide) (Nat.le_of_ble_eq_true rfl) (by decide) (by omega) zns100 (q := 27) rfl ?_
        refine zIadd d_X10_readNumber_27 (q := 28) rfl ?_
        refine zBipush d_X10_readNumber_28 (v := 48) bc_48 (q := 30) rfl ?_
        refine zIsub d_X10_readNumber_30 (q := 31) rfl ?_
        refine zIstoreN d_X10_readNumber_31 rfl (by decide) rfl (q := 32) rfl ?_
        refine zAloadN d_X10_readNumber_32 rfl rfl (q := 33) rfl ?_
        refine zDup d_X10_readNumber_33 rfl (q := 34) rfl ?_
        refine zGetI d_X10_readNumber_34 ff_X10_28 sh_29 (by decide) (q := 37) rfl ?_
        refine zIconst d_X10_readNumber_37 (v := 1) ic_1 (q := 38) rfl ?_
        refine zIadd d_X10_readNumber_38 (q := 39) rfl ?_
        rw [hJ.2.2.1, nI_1]
        refine zPutI d_X10_readNumber_39 ff_X10_28 rfl rfl rfl sh_29 (by decide) (q := 42) rfl ?_
        refine zIinc d_X10_readNumber_42 rfl (zinc _) (by decide) rfl (q := 45) rfl ?_
        refine zGoto d_X10_readNumber_45 (q := 4) (by decide) ?_
        refine zSub [0, 1, 2] rfl ?_
        exact ih hlt _ (zTp_go (q := p + i + 1) hh hJ) hlm hx
  refine zSp_of (lv := [(0, .ref 29)]) k_X10_readNumber rfl (Nat.le_of_ble_eq_true rfl) ?_
  refine zIconst d_X10_readNumber_0 (v := 0) ic_0 (q := 1) rfl ?_
  refine zIstoreN d_X10_readNumber_1 rfl (by decide) rfl (q := 2) rfl ?_
  refine zIconst d_X10_readNumber_2 (v := 0) ic_0 (q := 3) rfl ?_
  refine zIstoreN d_X10_readNumber_3 rfl (by decide) rfl (q := 4) rfl ?_
  refine zSub [0, 1, 2] rfl ?_
  exact loop 0 (Nat.zero_le _) J k hp rfl
end S24

