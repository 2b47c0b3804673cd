theorem d_X12_addStar_0 : decode (zmc m_X12_addStar) 0 = .ok (.aload_n 0, 1) := by decide +kernel
theorem d_X12_addStar_1 : decode (zmc m_X12_addStar) 1 = .ok (.getfield 9, 3) := by decide +kernel
theorem d_X12_addStar_4 : decode (zmc m_X12_addStar) 4 = .ok (.aload_n 0, 1) := by decide +kernel
theorem d_X12_addStar_5 : decode (zmc m_X12_addStar) 5 = .ok (.getfield 124, 3) := by decide +kernel
theorem d_X12_addStar_8 : decode (zmc m_X12_addStar) 8 = .ok (.iload_n 1, 1) := by decide +kernel
theorem d_X12_addStar_9 : decode (zmc m_X12_addStar) 9 = .ok (.iastore, 1) := by decide +kernel
theorem d_X12_addStar_10 : decode (zmc m_X12_addStar) 10 = .ok (.aload_n 0, 1) := by decide +kernel
theorem d_X12_addStar_11 : decode (zmc m_X12_addStar) 11 = .ok (.getfield 15, 3) := by decide +kernel
theorem d_X12_addStar_14 : decode (zmc m_X12_addStar) 14 = .ok (.aload_n 0, 1) := by decide +kernel
theorem d_X12_addStar_15 : decode (zmc m_X12_addStar) 15 = .ok (.getfield 124, 3) := by decide +kernel
theorem d_X12_addStar_18 : decode (zmc m_X12_addStar) 18 = .ok (.iload_n 2, 1) := by decide +kernel
theorem d_X12_addStar_19 : decode (zmc m_X12_addStar) 19 = .ok (.iastore, 1) := by decide +kernel
theorem d_X12_addStar_20 : decode (zmc m_X12_addStar) 20 = .ok (.aload_n 0, 1) := by decide +kernel
theorem d_X12_addStar_21 : decode (zmc m_X12_addStar) 21 = .ok (.getfield 18, 3) := by decide +kernel
theorem d_X12_addStar_24 : decode (zmc m_X12_addStar) 24 = .ok (.aload_n 0, 1) := by decide +kernel
theorem d_X12_addStar_25 : decode (zmc m_X12_addStar) 25 = .ok (.getfield 124, 3) := by decide +kernel
theorem d_X12_addStar_28 : decode (zmc m_X12_addStar) 28 = .ok (.iload_n 3, 1) := by decide +kernel
theorem d_X12_addStar_29 : decode (zmc m_X12_addStar) 29 = .ok (.iastore, 1) := by decide +kernel
theorem d_X12_addStar_30 : decode (zmc m_X12_addStar) 30 = .ok (.aload_n 0, 1) := by decide +kernel
theorem d_X12_addStar_31 : decode (zmc m_X12_addStar) 31 = .ok (.getfield 21, 3) := by decide +kernel
theorem d_X12_addStar_34 : decode (zmc m_X12_addStar) 34 = .ok (.aload_n 0, 1) := by decide +kernel
theorem d_X12_addStar_35 : decode (zmc m_X12_addStar) 35 = .ok (.getfield 124, 3) := by decide +kernel
theorem d_X12_addStar_38 : decode (zmc m_X12_addStar) 38 = .ok (.iconst 5, 1) := by decide +kernel
theorem d_X12_addStar_39 : decode (zmc m_X12_addStar) 39 = .ok (.iastore, 1) := by decide +kernel
theorem d_X12_addStar_40 : decode (zmc m_X12_addStar) 40 = .ok (.aload_n 0, 1) := by decide +kernel
theorem d_X12_addStar_41 : decode (zmc m_X12_addStar) 41 = .ok (.dup, 1) := by decide +kernel
theorem d_X12_addStar_42 : decode (zmc m_X12_addStar) 42 = .ok (.getfield 124, 3) := by decide +kernel
theorem d_X12_addStar_45 : decode (zmc m_X12_addStar) 45 = .ok (.iconst 1, 1) := by decide +kernel
theorem d_X12_addStar_46 : decode (zmc m_X12_addStar) 46 = .ok (.iadd, 1) := by decide +kernel
theorem d_X12_addStar_47 : decode (zmc m_X12_addStar) 47 = .ok (.putfield 124, 3) := by decide +kernel
theorem d_X12_addStar_50 : decode (zmc m_X12_addStar) 50 = .ok (.aload_n 0, 1) := by decide +kernel
theorem d_X12_addStar_51 : decode (zmc m_X12_addStar) 51 = .ok (.getfield 124, 3) := by decide +kernel
theorem d_X12_addStar_54 : decode (zmc m_X12_addStar) 54 = .ok (.iconst 1, 1) := by decide +kernel
theorem d_X12_addStar_55 : decode (zmc m_X12_addStar) 55 = .ok (.isub, 1) := by decide +kernel
theorem d_X12_addStar_56 : decode (zmc m_X12_addStar) 56 = .ok (.ireturn, 1) := by decide +kernel
theorem d_X12_ship_0 : decode (zmc m_X12_ship) 0 = .ok (.iload_n 1, 1) := by decide +kernel
theorem d_X12_ship_1 : decode (zmc m_X12_ship) 1 = .ok (.iconst 1, 1) := by decide +kernel
theorem d_X12_ship_2 : decode (zmc m_X12_ship) 2 = .ok (.sipush 1023, 3) := by decide +kernel
theorem d_X12_ship_5 : decode (zmc m_X12_ship) 5 = .ok (.invokestatic 127, 3) := by decide +kernel
theorem d_X12_ship_8 : decode (zmc m_X12_ship) 8 = .ok (.ifCond .ne 5, 3) := by decide +kernel
theorem d_X12_ship_11 : decode (zmc m_X12_ship) 11 = .ok (.iconst (-1), 1) := by decide +kernel
theorem d_X12_ship_12 : decode (zmc m_X12_ship) 12 = .ok (.ireturn, 1) := by decide +kernel
theorem d_X12_ship_13 : decode (zmc m_X12_ship) 13 = .ok (.aload_n 0, 1) := by decide +kernel
theorem d_X12_ship_14 : decode (zmc m_X12_ship) 14 = .ok (.getfield 157, 3) := by decide +kernel
theorem d_X12_ship_17 : decode (zmc m_X12_ship) 17 = .ok (.bipush 6, 2) := by decide +kernel
theorem d_X12_ship_19 : decode (zmc m_X12_ship) 19 = .ok (.if_icmp .ne 6, 3) := by decide +kernel
theorem d_X12_ship_22 : decode (zmc m_X12_ship) 22 = .ok (.bipush (-3), 2) := by decide +kernel
theorem d_X12_ship_24 : decode (zmc m_X12_ship) 24 = .ok (.ireturn, 1) := by decide +kernel
theorem d_X12_ship_25 : decode (zmc m_X12_ship) 25 = .ok (.aload_n 0, 1) := by decide +kernel
theorem d_X12_ship_26 : decode (zmc m_X12_ship) 26 = .ok (.getfield 36, 3) := by decide +kernel
theorem d_X12_ship_29 : decode (zmc m_X12_ship) 29 = .ok (.aload_n 0, 1) := by decide +kernel
theorem d_X12_ship_30 : decode (zmc m_X12_ship) 30 = .ok (.getfield 157, 3) := by decide +kernel
theorem d_X12_ship_33 : decode (zmc m_X12_ship) 33 = .ok (.iload_n 1, 1) := by decide +kernel
theorem d_X12_ship_34 : decode (zmc m_X12_ship) 34 = .ok (.iastore, 1) := by decide +kernel
theorem d_X12_ship_35 : decode (zmc m_X12_ship) 35 = .ok (.aload_n 0, 1) := by decide +kernel
theorem d_X12_ship_36 : decode (zmc m_X12_ship) 36 = .ok (.dup, 1) := by decide +kernel
theorem d_X12_ship_37 : decode (zmc m_X12_ship) 37 = .ok (.getfield 157, 3) := by decide +kernel
theorem d_X12_ship_40 : decode (zmc m_X12_ship) 40 = .ok (.iconst 1, 1) := by decide +kernel
theorem d_X12_ship_41 : decode (zmc m_X12_ship) 41 = .ok (.iadd, 1) := by decide +kernel
theorem d_X12_ship_42 : decode (zmc m_X12_ship) 42 = .ok (.putfield 157, 3) := by decide +kernel
theorem d_X12_ship_45 : decode (zmc m_X12_ship) 45 = .ok (.aload_n 0, 1) := by decide +kernel
theorem d_X12_ship_46 : decode (zmc m_X12_ship) 46 = .ok (.getfield 157, 3) := by decide +kernel
theorem d_X12_ship_49 : decode (zmc m_X12_ship) 49 = .ok (.iconst 1, 1) := by decide +kernel
theorem d_X12_ship_50 : decode (zmc m_X12_ship) 50 = .ok (.isub, 1) := by decide +kernel
theorem d_X12_ship_51 : decode (zmc m_X12_ship) 51 = .ok (.ireturn, 1) := by decide +kernel
theorem d_X12_star_0 : decode (zmc m_X12_star) 0 = .ok (.iload_n 1, 1) := by decide +kernel
theorem d_X12_star_1 : decode (zmc m_X12_star) 1 = .ok (.invokestatic 145, 3) := by decide +kernel
theorem d_X12_star_4 : decode (zmc m_X12_star) 4 = .ok (.ifCond .eq 11, 3) := by decide +kernel
theorem d_X12_star_7 : decode (zmc m_X12_star) 7 = .ok (.aload_n 0, 1) := by decide +kernel
theorem d_X12_star_8 : decode (zmc m_X12_star) 8 = .ok (.iload_n 1, 1) := by decide +kernel
theorem d_X12_star_9 : decode (zmc m_X12_star) 9 = .ok (.invokevirtual 141, 3) := by decide +kernel
theorem d_X12_star_12 : decode (zmc m_X12_star) 12 = .ok (.ifCond .lt 5, 3) := by decide +kernel
theorem d_X12_star_15 : decode (zmc m_X12_star) 15 = .ok (.iconst (-1), 1) := by decide +kernel
theorem d_X12_star_16 : decode (zmc m_X12_star) 16 = .ok (.ireturn, 1) := by decide +kernel
theorem d_X12_star_17 : decode (zmc m_X12_star) 17 = .ok (.aload_n 0, 1) := by decide +kernel
theorem d_X12_star_18 : decode (zmc m_X12_star) 18 = .ok (.getfield 124, 3) := by decide +kernel
theorem d_X12_star_21 : decode (zmc m_X12_star) 21 = .ok (.bipush 10, 2) := by decide +kernel
theorem d_X12_star_23 : decode (zmc m_X12_star) 23 = .ok (.if_icmp .ne 8, 3) := by decide +kernel
theorem d_X12_star_26 : decode (zmc m_X12_star) 26 = .ok (.bipush (-3), 2) := by decide +kernel
theorem d_X12_star_28 : decode (zmc m_X12_star) 28 = .ok (.goto 10, 3) := by decide +kernel
theorem d_X12_star_31 : decode (zmc m_X12_star) 31 = .ok (.aload_n 0, 1) := by decide +kernel
theorem d_X12_star_32 : decode (zmc m_X12_star) 32 = .ok (.iload_n 1, 1) := by decide +kernel
theorem d_X12_star_33 : decode (zmc m_X12_star) 33 = .ok (.iconst 5, 1) := by decide +kernel
theorem d_X12_star_34 : decode (zmc m_X12_star) 34 = .ok (.iconst 5, 1) := by decide +kernel
theorem d_X12_star_35 : decode (zmc m_X12_star) 35 = .ok (.invokevirtual 148, 3) := by decide +kernel
theorem d_X12_star_38 : decode (zmc m_X12_star) 38 = .ok (.ireturn, 1) := by decide +kernel
theorem d_X12_thrower_0 : decode (zmc m_X12_thrower) 0 = .ok (.iload_n 1, 1) := by decide +kernel
theorem d_X12_thrower_1 : decode (zmc m_X12_thrower) 1 = .ok (.iconst 0, 1) := by decide +kernel
theorem d_X12_thrower_2 : decode (zmc m_X12_thrower) 2 = .ok (.bipush 9, 2) := by decide +kernel
theorem d_X12_thrower_4 : decode (zmc m_X12_thrower) 4 = .ok (.invokestatic 127, 3) := by decide +kernel
theorem d_X12_thrower_7 : decode (zmc m_X12_thrower) 7 = .ok (.ifCond .ne 5, 3) := by decide +kernel
theorem d_X12_thrower_10 : decode (zmc m_X12_thrower) 10 = .ok (.iconst (-1), 1) := by decide +kernel
theorem d_X12_thrower_11 : decode (zmc m_X12_thrower) 11 = .ok (.ireturn, 1) := by decide +kernel
theorem d_X12_thrower_12 : decode (zmc m_X12_thrower) 12 = .ok (.aload_n 0, 1) := by decide +kernel
theorem d_X12_thrower_13 : decode (zmc m_X12_thrower) 13 = .ok (.getfield 131, 3) := by decide +kernel
theorem d_X12_thrower_16 : decode (zmc m_X12_thrower) 16 = .ok (.iconst 4, 1) := by decide +kernel
theorem d_X12_thrower_17 : decode (zmc m_X12_thrower) 17 = .ok (.if_icmp .ne 6, 3) := by decide +kernel
theorem d_X12_thrower_20 : decode (zmc m_X12_thrower) 20 = .ok (.bipush (-3), 2) := by decide +kernel
theorem d_X12_thrower_22 : decode (zmc m_X12_thrower) 22 = .ok (.ireturn, 1) := by decide +kernel
theorem d_X12_thrower_23 : decode (zmc m_X12_thrower) 23 = .ok (.aload_n 0, 1) := by decide +kernel
theorem d_X12_thrower_24 : decode (zmc m_X12_thrower) 24 = .ok (.getfield 30, 3) := by decide +kernel
theorem d_X12_thrower_27 : decode (zmc m_X12_thrower) 27 = .ok (.aload_n 0, 1) := by decide +kernel
theorem d_X12_thrower_28 : decode (zmc m_X12_thrower) 28 = .ok (.getfield 131, 3) := by decide +kernel
theorem d_X12_thrower_31 : decode (zmc m_X12_thrower) 31 = .ok (.iload_n 1, 1) := by decide +kernel
theorem d_X12_thrower_32 : decode (zmc m_X12_thrower) 32 = .ok (.iastore, 1) := by decide +kernel
theorem d_X12_thrower_33 : decode (zmc m_X12_thrower) 33 = .ok (.aload_n 0, 1) := by decide +kernel
theorem d_X12_thrower_34 : decode (zmc m_X12_thrower) 34 = .ok (.getfield 33, 3) := by decide +kernel
theorem d_X12_thrower_37 : decode (zmc m_X12_thrower) 37 = .ok (.aload_n 0, 1) := by decide +kernel
theorem d_X12_thrower_38 : decode (zmc m_X12_thrower) 38 = .ok (.getfield 131, 3) := by decide +kernel
theorem d_X12_thrower_41 : decode (zmc m_X12_thrower) 41 = .ok (.iconst 3, 1) := by decide +kernel
theorem d_X12_thrower_42 : decode (zmc m_X12_thrower) 42 = .ok (.iastore, 1) := by decide +kernel
theorem d_X12_thrower_43 : decode (zmc m_X12_thrower) 43 = .ok (.aload_n 0, 1) := by decide +kernel
theorem d_X12_thrower_44 : decode (zmc m_X12_thrower) 44 = .ok (.dup, 1) := by decide +kernel
theorem d_X12_thrower_45 : decode (zmc m_X12_thrower) 45 = .ok (.getfield 131, 3) := by decide +kernel
theorem d_X12_thrower_48 : decode (zmc m_X12_thrower) 48 = .ok (.iconst 1, 1) := by decide +kernel
theorem d_X12_thrower_49 : decode (zmc m_X12_thrower) 49 = .ok (.iadd, 1) := by decide +kernel
theorem d_X12_thrower_50 : decode (zmc m_X12_thrower) 50 = .ok (.putfield 131, 3) := by decide +kernel
theorem d_X12_thrower_53 : decode (zmc m_X12_thrower) 53 = .ok (.aload_n 0, 1) := by decide +kernel
theorem d_X12_thrower_54 : decode (zmc m_X12_thrower) 54 = .ok (.getfield 131, 3) := by decide +kernel
theorem d_X12_thrower_57 : decode (zmc m_X12_thrower) 57 = .ok (.iconst 1, 1) := by decide +kernel
theorem d_X12_thrower_58 : decode (zmc m_X12_thrower) 58 = .ok (.isub, 1) := by decide +kernel
theorem d_X12_thrower_59 : decode (zmc m_X12_thrower) 59 = .ok (.ireturn, 1) := by decide +kernel
/-! THE REFERENCE: what all its cells hold; stars, throwers, ships -/
def zMt (I V : Nat → Nat → Int32) : Prop := I 64 21 = V 29 1 ∧ I 79 = fun k => (V 30 k).toInt8.toInt32
def zMc (I V : Nat → Nat → Int32) : Prop := I 64 14 = V 31 4 ∧ I 64 15 = V 31 5 - V 31 4 ∧ I 75 = V 32 ∧ I 76 = V 33 ∧ I 77 = V 34 ∧ I 78 = V 35
def zMi (I V : Nat → Nat → Int32) : Prop := (I 64 42 = V 36 6 ∧ I 64 43 = V 36 3 ∧ I 64 44 = V 36 1 ∧ I 64 45 = V 36 2 ∧ I 64 46 = V 36 4 ∧ I 64 47 = V 36 5) ∧ I 93 = V 37
def zMa (I V : Nat → Nat → Int32) : Prop := (I 64 49 = V 38 2 ∧ I 64 51 = V 38 3) ∧ I 94 = V 39 ∧ I 95 = V 40
/-- what the reference says of a shelf -/
def zHc (h b : Int32) : Int32 := if h = -1 then -1 else if h = 5 then b else -2 - h
def zMh (I V : Nat → Nat → Int32) (L K : Nat → Nat → Int64) : Prop := ∀ k, k < 6 → I 97 k = V (42 + 2 * k) 2 ∧ I 96 k = zHc (V (42 + 2 * k) 1) (V (42 + 2 * k) 3) ∧ ∀ i, i < 60 → L 98 (60 * k + i) = K (43 + 2 * k) i
/-- the reference's number of a sign -/
def zRc (c : Int32) : Int32 := if c = 0 then 1 else if c = 1 then 2 else if c = 4 then 3 else if c = 5 then 4 else c
def zLr (A W : Nat → Int32) (p : Nat) (c : List zSt1) : Prop := ∀ (i : Nat) (x : zSt1), c[i]? = some x → A (p + i) = zRc x.1 ∧ W (p + i) = x.2
def zTc (x : zLine) : List zSt1 := x.1.getD []
def zTot : List zLine → Nat
  | [] => 0
  | x :: ls => (zTc x).length + x.2.length + zTot ls
/-- lines from the q-th on lie from step f on (all steps from b on) -/
def zLs (A W T E : Nat → Int32) (b : Nat) : Nat → Nat → List zLine → Prop
  | _, _, [] => True
  | q, f, x :: ls => (T q = nI (f + (zTc x).length) ∧ E q = nI (f + ((zTc x).length + x.2.length))) ∧ zLr A W (b + f) (zTc x ++ x.2) ∧ zLs A W T E b (q + 1) (f + ((zTc x).length + x.2.length)) ls
def zMl (I : Nat → Nat → Int32) (pg : Option (List zLine)) : Prop := match pg with
  | none => I 64 33 = 0
  | some ls => I 64 33 = 1 ∧ I 82 0 = nI ls.length ∧ ls.length ≤ 61 ∧ zTot ls ≤ 130 ∧ zLs (I 80) (I 81) (I 83) (I 84) 0 0 0 ls ∧ ∀ x ∈ ls, zWfL x
def zMd (I : Nat → Nat → Int32) (L : Nat → Nat → Int64) (V : Nat → Nat → Int32) (K : Nat → Nat → Int64) (pg : Option (List zLine)) : Prop := zMs I V ∧ zMt I V ∧ zMc I V ∧ zMi I V ∧ zMa I V ∧ zMh I V L K ∧ zMl I pg
theorem zMs_ex {I J V V' : Nat → Nat → Int32} (h1 : J 64 1 = I 64 1 ∧ J 64 8 = I 64 8 ∧ J 64 11 = I 64 11) (h : ∀ a, (65 ≤ a ∧ a ≤ 74) ∨ a = 92 → J a = I a) (v : ∀ a, a ≤ 15 → V' a = V a) (hM : zMs I V) : zMs J V' := by
  unfold zMs
  rw [h1.1, h1.2.1, h1.2.2, h 65 (by omega), h 66 (by omega), h 67 (by omega), h 68 (by omega), h 69 (by omega), h 70 (by omega), h 71 (by omega), h 72 (by omega), h 73 (by omega), h 74 (by omega), h 92 (by omega),
    v 1 (by omega), v 3 (by omega), v 4 (by omega), v 5 (by omega), v 6 (by omega), v 7 (by omega), v 8 (by omega), v 9 (by omega), v 10 (by omega), v 11 (by omega), v 12 (by omega), v 13 (by omega), v 14 (by omega), v 15 (by omega)]
  exact hM
theorem zMt_ex {I J V V' : Nat → Nat → Int32} (h1 : J 64 21 = I 64 21) (h : J 79 = I 79) (v : V' 29 = V 29 ∧ V' 30 = V 30) (hM : zMt I V) : zMt J V' := by
  unfold zMt; rw [h1, h, v.1, v.2]; exact hM
theorem zMc_ex {I J V V' : Nat → Nat → Int32} (h1 : J 64 14 = I 64 14 ∧ J 64 15 = I 64 15) (h : ∀ a, 75 ≤ a ∧ a ≤ 78 → J a = I a) (v : ∀ a, 31 ≤ a ∧ a ≤ 35 → V' a = V a) (hM : zMc I V) : zMc J V' := by
  unfold zMc
  rw [h1.1, h1.2, h 75 (by omega), h 76 (by omega), h 77 (by omega), h 78 (by omega), v 31 (by omega), v 32 (by omega), v 33 (by omega), v 34 (by omega), v 35 (by omega)]
  exact hM
theorem zMi_ex {I J V V' : Nat → Nat → Int32} (h1 : ∀ k, 42 ≤ k ∧ k ≤ 47 → J 64 k = I 64 k) (h : J 93 = I 93) (v : V' 36 = V 36 ∧ V' 37 = V 37) (hM : zMi I V) : zMi J V' := by
  unfold zMi
  rw [h1 42 (by omega), h1 43 (by omega), h1 44 (by omega), h1 45 (by omega), h1 46 (by omega), h1 47 (by omega), h, v.1, v.2]
  exact hM
theorem zMa_ex {I J V V' : Nat → Nat → Int32} (h1 : J 64 49 = I 64 49 ∧ J 64 51 = I 64 51) (h : J 94 = I 94 ∧ J 95 = I 95) (v : V' 38 = V 38 ∧ V' 39 = V 39 ∧ V' 40 = V 40) (hM : zMa I V) : zMa J V' := by
  unfold zMa
  rw [h1.1, h1.2, h.1, h.2, v.1, v.2.1, v.2.2]
  exact hM
theorem zMh_ex {I J V V' : Nat → Nat → Int32} {L K : Nat → Nat → Int64} (h : J 96 = I 96 ∧ J 97 = I 97) (v : ∀ a, 42 ≤ a ∧ a ≤ 52 → V' a = V a) (hM : zMh I V L K) : zMh J V' L K := by
  intro k hk
  rw [h.1, h.2, v (42 + 2 * k) (by omega)]
  exact hM k hk
theorem zMl_ex {I J : Nat → Nat → Int32} {pg : Option (List zLine)} (h1 : J 64 33 = I 64 33) (h : ∀ a, (80 ≤ a ∧ a ≤ 84) → J a = I a) (hM : zMl I pg) : zMl J pg := by
  cases pg with
  | none => exact h1.trans hM
  | some ls =>
    unfold zMl at hM ⊢
    simp only [] at hM ⊢
    rw [h1, h 80 (by omega), h 81 (by omega), h 82 (by omega), h 83 (by omega), h 84 (by omega)]
    exact hM
/-- the reference's cells but its drafts -/
def zScr (I J : Nat → Nat → Int32) : Prop := (∀ a, ¬ (85 ≤ a ∧ a ≤ 91) → a ≠ 64 → J a = I a) ∧ ∀ k, k ≠ 34 → k ≠ 39 → J 64 k = I 64 k
theorem zScr_refl {I : Nat → Nat → Int32} : zScr I I := ⟨fun _ _ _ => rfl, fun _ _ _ => rfl⟩
theorem zScr_trans {I J H : Nat → Nat → Int32} (h : zScr I J) (h2 : zScr J H) : zScr I H := ⟨fun a q1 q2 => (h2.1 a q1 q2).trans (h.1 a q1 q2), fun k q1 q2 => (h2.2 k q1 q2).trans (h.2 k q1 q2)⟩
theorem zScr_up {I J : Nat → Nat → Int32} {a : Nat} {f : Nat → Int32} (h : zScr I J) (ha : 85 ≤ a ∧ a ≤ 91) : zScr I (zup J a f) := ⟨fun b q1 q2 => by rw [zup_ne (by rintro rfl; exact q1 ha)]; exact h.1 b q1 q2, fun k q1 q2 => by rw [zup_ne (f := J) (show (64 : Nat) ≠ a by omega)]; exact h.2 k q1 q2⟩
theorem zScr_fld {I J : Nat → Nat → Int32} {k : Nat} {x : Int32} (h : zScr I J) (hk : k = 34 ∨ k = 39) : zScr I (zup J 64 (zup (J 64) k x)) := ⟨fun b q1 q2 => by rw [zup_ne q2]; exact h.1 b q1 q2, fun i q1 q2 => by rw [zup_eq, zup_ne (by omega)]; exact h.2 i q1 q2⟩
theorem zScr_frm {I J : Nat → Nat → Int32} (h : zScr I J) : zFrm I J := fun a ha => h.1 a (by omega) (by omega)
theorem zScr_s {I J V : Nat → Nat → Int32} (h : zScr I J) (hM : zMs I V) : zMs J V := zMs_ex ⟨h.2 _ (by decide) (by decide), h.2 _ (by decide) (by decide), h.2 _ (by decide) (by decide)⟩ (fun a ha => h.1 a (by omega) (by omega)) (fun _ _ => rfl) hM
theorem zScr_h {I J V : Nat → Nat → Int32} {L K : Nat → Nat → Int64} (h : zScr I J) (hM : zMh I V L K) : zMh J V L K := zMh_ex ⟨h.1 _ (by decide) (by decide), h.1 _ (by decide) (by decide)⟩ (fun _ _ => rfl) hM
theorem zScr_l {I J : Nat → Nat → Int32} {pg : Option (List zLine)} (h : zScr I J) (hM : zMl I pg) : zMl J pg := zMl_ex (h.2 _ (by decide) (by decide)) (fun a ha => h.1 a (by omega) (by omega)) hM
theorem zScr_d {I J V : Nat → Nat → Int32} {L K : Nat → Nat → Int64} {pg : Option (List zLine)} (h : zScr I J) (hM : zMd I L V K pg) : zMd J L V K pg :=
  ⟨zScr_s h hM.1, zMt_ex (h.2 _ (by decide) (by decide)) (h.1 _ (by decide) (by decide)) ⟨rfl, rfl⟩ hM.2.1,
   zMc_ex ⟨h.2 _ (by decide) (by decide), h.2 _ (by decide) (by decide)⟩ (fun a ha => h.1 a (by omega) (by omega)) (fun _ _ => rfl) hM.2.2.1,
   zMi_ex (fun k hk => h.2 k (by omega) (by omega)) (h.1 _ (by decide) (by decide)) ⟨rfl, rfl⟩ hM.2.2.2.1,
   zMa_ex ⟨h.2 _ (by decide) (by decide), h.2 _ (by decide) (by decide)⟩ ⟨h.1 _ (by decide) (by decide), h.1 _ (by decide) (by decide)⟩ ⟨rfl, rfl, rfl⟩ hM.2.2.2.2.1,
   zScr_h h hM.2.2.2.2.2.1, zScr_l h hM.2.2.2.2.2.2⟩
/-- only the class's half of V counts -/
theorem zMd_frm {I V V' : Nat → Nat → Int32} {L K K' : Nat → Nat → Int64} {pg : Option (List zLine)} (v : ∀ a, a < 54 → V' a = V a) (k : ∀ a, 43 ≤ a → a ≤ 53 → K' a = K a) (hM : zMd I L V K pg) : zMd I L V' K' pg :=
  ⟨zMs_ex ⟨rfl, rfl, rfl⟩ (fun _ _ => rfl) (fun a ha => v a (by omega)) hM.1, zMt_ex rfl rfl ⟨v _ (by decide), v _ (by decide)⟩ hM.2.1, zMc_ex ⟨rfl, rfl⟩ (fun _ _ => rfl) (fun a ha => v a (by omega)) hM.2.2.1,
   zMi_ex (fun _ _ => rfl) rfl ⟨v _ (by decide), v _ (by decide)⟩ hM.2.2.2.1, zMa_ex ⟨rfl, rfl⟩ ⟨rfl, rfl⟩ ⟨v _ (by decide), v _ (by decide), v _ (by decide)⟩ hM.2.2.2.2.1,
   fun q hq => by rw [v (42 + 2 * q) (by omega), k (43 + 2 * q) (by omega) (by omega)]; exact hM.2.2.2.2.2.1 q hq, hM.2.2.2.2.2.2⟩
theorem zStarI_ne {V : Nat → Nat → Int32} {n a : Nat} {c b s : Int32} (h : 14 < a) : zStarI V n c b s a = V a := by
  unfold zStarI; rw [zup_ne (by omega), zup_ne (by omega), zup_ne (by omega), zup_ne (by omega), zup_ne (by omega)]
theorem zThrI_ne {V : Nat → Nat → Int32} {n a : Nat} {c : Int32} (h : 14 < a) : zThrI V n c a = V a := by
  unfold zThrI; rw [zup_ne (by omega), zup_ne (by omega), zup_ne (by omega)]
theorem zShpI_ne {V : Nat → Nat → Int32} {n a : Nat} {c : Int32} (h : 14 < a) : zShpI V n c a = V a := by
  unfold zShpI; rw [zup_ne (by omega), zup_ne (by omega)]
section S40
variable {g : zG} {l : Launch} {d : Nat} {I V : Nat → Nat → Int32} {L K : Nat → Nat → Int64} {fs : Nat × Nat × Option Nat} {ns nt nh : Nat} {pg : Option (List zLine)}
theorem zMs_star (hM : zMs I V) {c b s : Int32} {n : Nat} : zMs (zup (zup (zup (zup (zup I 65 (zup (I 65) n c)) 66 (zup (I 66) n b)) 67 (zup (I 67) n s)) 68 (zup (I 68) n 5)) 64 (zup (I 64) 1 (nI (n + 1)))) (zStarI V n c b s) := by
  obtain ⟨⟨m1, m2, m3⟩, ⟨mc, mb, ms, ma, mu, mg, mf, mp, mn⟩, ⟨mm, md, mz⟩, ml⟩ := hM
  refine ⟨⟨rfl, m2, m3⟩, ⟨?_, ?_, ?_, ?_, mu, mg, mf, mp, mn⟩, ⟨mm, md, mz⟩, ml⟩
  · show zup (I 65) n c = zup (V 3) n c; rw [mc]
  · show zup (I 66) n b = zup (V 4) n b; rw [mb]
  · show zup (I 67) n s = zup (V 5) n s; rw [ms]
  · show zup (I 68) n 5 = zup (V 6) n 5; rw [ma]
theorem sp_X12_addStar (hd : 1 ≤ d) (hM : zMs I V) (hK : zSky V ns nt nh) (hn : ns < 10) {c b s : Int32} : zSp g l d 100 m_X12_addStar [.ref 64, .int c, .int b, .int s] (zU I L fs) (zX (fun x w => x = nI ns ∧ w = zU (zup (zup (zup (zup (zup I 65 (zup (I 65) ns c)) 66 (zup (I 66) ns b)) 67 (zup (I 67) ns s)) 68 (zup (I 68) ns 5)) 64 (zup (I 64) 1 (nI (ns + 1)))) L fs)) := by
  have e1 : I 64 1 = nI ns := hM.1.1.trans hK.1.1
  have e2 : I 64 1 + 1 = nI (ns + 1) := by rw [e1, nI_1]
  refine zSp_of (lv := [(0, .ref 64), (1, .int c), (2, .int b), (3, .int s)]) k_X12_addStar rfl (Nat.le_of_ble_eq_true rfl) ?_
  refine zAloadN d_X12_addStar_0 rfl rfl (q := 1) rfl ?_
  refine zGetR d_X12_addStar_1 ff_X12_9 sh_64 (by decide) r_64_2 (q := 4) rfl ?_
  refine zAloadN d_X12_addStar_4 rfl rfl (q := 5) rfl ?_
  refine zGetI d_X12_addStar_5 ff_X12_124 sh_64 (by decide) (q := 8) rfl ?_
  refine zIloadN d_X12_addStar_8 rfl rfl (q := 9) rfl ?_
  refine zIast d_X12_addStar_9 sh_65 (by decide) e1 (by omega) (q := 10) rfl ?_
  refine zAloadN d_X12_addStar_10 rfl rfl (q := 11) rfl ?_
  refine zGetR d_X12_addStar_11 ff_X12_15 sh_64 (by decide) r_64_3 (q := 14) rfl ?_
  refine zAloadN d_X12_addStar_14 rfl rfl (q := 15) rfl ?_
  refine zGetI d_X12_addStar_15 ff_X12_124 sh_64 (by decide) (q := 18) rfl ?_
  refine zIloadN d_X12_addStar_18 rfl rfl (q := 19) rfl ?_
  refine zIast d_X12_addStar_19 sh_66 (by decide) e1 (by omega) (q := 20) rfl ?_
  refine zAloadN d_X12_addStar_20 rfl rfl (q := 21) rfl ?_
  refine zGetR d_X12_addStar_21 ff_X12_18 sh_64 (by decide) r_64_4 (q := 24) rfl ?_
  refine zAloadN d_X12_addStar_24 rfl rfl (q := 25) rfl ?_
  refine zGetI d_X12_addStar_25 ff_X12_124 sh_64 (by decide) (q := 28) rfl ?_
  refine zIloadN d_X12_addStar_28 rfl rfl (q := 29) rfl ?_
  refine zIast d_X12_addStar_29 sh_67 (by decide) e1 (by omega) (q := 30) rfl ?_
  refine zAloadN d_X12_addStar_30 rfl rfl (q := 31) rfl ?_
  refine zGetR d_X12_addStar_31 ff_X12_21 sh_64 (by decide) r_64_5 (q := 34) rfl ?_
  refine zAloadN d_X12_addStar_34 rfl rfl (q := 35) rfl ?_
  refine zGetI d_X12_addStar_35 ff_X12_124 sh_64 (by decide) (q := 38) rfl ?_
  refine zIconst d_X12_addStar_38 (v := 5) ic_5 (q := 39) rfl ?_
  refine zIast d_X12_addStar_39 sh_68 (by decide) e1 (by omega) (q := 40) rfl ?_
  refine zAloadN d_X12_addStar_40 rfl rfl (q := 41) rfl ?_
  refine zDup d_X12_addStar_41 rfl (q := 42) rfl ?_
  refine zGetI d_X12_addStar_42 ff_X12_124 sh_64 (by decide) (q := 45) rfl ?_
  refine zIconst d_X12_addStar_45 (v := 1) ic_1 (q := 46) rfl ?_
  refine zIadd d_X12_addStar_46 (q := 47) rfl ?_
  rw [show (zup (zup (zup (zup I 65 (zup (I 65) ns c)) 66 (zup ((zup I 65 (zup (I 65) ns c)) 66) ns b)) 67 (zup ((zup (zup I 65 (zup (I 65) ns c)) 66 (zup ((zup I 65 (zup (I 65) ns c)) 66) ns b)) 67) ns s)) 68 (zup ((zup (zup (zup I 65 (zup (I 65) ns c)) 66 (zup ((zup I 65 (zup (I 65) ns c)) 66) ns b)) 67 (zup ((zup (zup I 65 (zup (I 65) ns c)) 66 (zup ((zup I 65 (zup (I 65) ns c)) 66) ns b)) 67) ns s)) 68) ns 5)) 64 1 + 1 = nI (ns + 1) from e2]
  refine zPutI d_X12_addStar_47 ff_X12_124 rfl rfl rfl sh_64 (by decide) (q := 50) rfl ?_
  refine zAloadN d_X12_addStar_50 rfl rfl (q := 51) rfl ?_
  refine zGetI d_X12_addStar_51 ff_X12_124 sh_64 (by decide) (q := 54) rfl ?_
  refine zIconst d_X12_addStar_54 (v := 1) ic_1 (q := 55) rfl ?_
  refine zIsub d_X12_addStar_55 (q := 56) rfl ?_
  refine zIret d_X12_addStar_56 rfl rfl rfl ?_
  exact ⟨_, rfl, nI_pred ns, rfl⟩
theorem sp_X12_star (hd : 3 ≤ d) (hD : zMd I L V K pg) (hK : zSky V ns nt nh) {c : Int32} : zSp g l d 100 m_X12_star [.ref 64, .int c] (zU I L fs) (zX (fun x w => x = (zAdd V ns c 5 5).1 ∧ ∃ J, w = zU J L fs ∧ zFrm I J ∧ zMd J L (zAdd V ns c 5 5).2 K pg)) := by
  have hM := hD.1
  have hn := hK.2.1
  have hz := zfind_neg (f := V 3) (c := c) (n := ns) (by omega)
  have m55 : zMay 1 5 ∧ zMay 2 5 := by decide
  refine zSp_of (lv := [(0, .ref 64), (1, .int c)]) k_X12_star rfl (Nat.le_of_ble_eq_true rfl) ?_
  refine zIloadN d_X12_star_0 rfl rfl (q := 1) rfl ?_
  refine zCallSP d_X12_star_1 ml_X12_145 k_X12_isCell kt_X12_isCell (sp_X12_isCell (d := d - 1) (by omega) ) rfl rfl (Nat.le_of_ble_eq_true rfl) (by decide) (by omega) zns100 (q := 4) rfl ?_
  refine zIf_eq d_X12_star_4 (tgt := 15) (q := 7) (by decide) rfl (fun h4 => ?_) (fun h4 => ?_)
  · have e : zAdd V ns c 5 5 = (-1, V) := by unfold zAdd; rw [if_pos (fun q => bi_0.mp h4 q.1)]
    refine zIconst d_X12_star_15 (v := -1) ic_m1 (q := 16) rfl ?_
    refine zIret d_X12_star_16 rfl rfl rfl ?_
    rw [e]; exact ⟨_, rfl, rfl, I, rfl, zFrm_refl, hD⟩
  · have c1 := bi_n0.mp h4
    refine zAloadN d_X12_star_7 rfl rfl (q := 8) rfl ?_
    refine zIloadN d_X12_star_8 rfl rfl (q := 9) rfl ?_
    refine zCallVP d_X12_star_9 ml_X12_141 k_X12_starIn ki_X12_starIn ks_X12_starIn (sp_X12_starIn (d := d - 1) (by omega) hM hK) rfl rfl sh_64 (by decide) rfl (by decide) (Nat.le_of_ble_eq_true rfl) (by decide) (by omega) zns100 (q := 12) rfl ?_
    refine zIf_lt d_X12_star_12 (tgt := 17) (q := 15) (by decide) rfl (fun h12 => ?_) (fun h12 => ?_)
    · have c2 := hz.mp h12
      refine zAloadN d_X12_star_17 rfl rfl (q := 18) rfl ?_
      refine zGetI d_X12_star_18 ff_X12_124 sh_64 (by decide) (q := 21) rfl ?_
      refine zBipush d_X12_star_21 (v := 10) bc_10 (q := 23) rfl ?_
      refine zIcmp_ne d_X12_star_23 (tgt := 31) (q := 26) (by decide) rfl (fun h23 => ?_) (fun h23 => ?_)
      · have n10 : ns < 10 := by rcases Nat.eq_or_lt_of_le hn with q | q; exact absurd (hM.1.1.trans (hK.1.1.trans (by rw [q]; rfl))) h23; exact q
        have e : zAdd V ns c 5 5 = (nI ns, zStarI V ns c 5 5) := by unfold zAdd; rw [if_neg (fun q => q ⟨c1, m55⟩), if_neg (fun q => q c2), if_neg (by omega)]
        rw [e]
        refine zAloadN d_X12_star_31 rfl rfl (q := 32) rfl ?_
        refine zIloadN d_X12_star_32 rfl rfl (q := 33) rfl ?_
        refine zIconst d_X12_star_33 (v := 5) ic_5 (q := 34) rfl ?_
        refine zIconst d_X12_star_34 (v := 5) ic_5 (q := 35) rfl ?_
        refine zCallVX d_X12_star_35 ml_X12_148 k_X12_addStar ki_X12_addStar ks_X12_addStar (sp_X12_addStar (d := d - 1) (by omega) hM hK n10) rfl rfl sh_64 (by decide) rfl (by decide) (Nat.le_of_ble_eq_true rfl) (by decide) (by omega) zns100 (q := 38) rfl (fun x w' hw' => ?_)
        obtain ⟨rfl, rfl⟩ := hw'
        refine zIret d_X12_star_38 rfl rfl rfl ?_
        first
        | exact ⟨_, rfl, rfl, I, rfl, zFrm_refl, hD⟩
        | exact ⟨_, rfl, rfl, _, rfl, zFrm_up (zFrm_up (zFrm_up (zFrm_up (zFrm_up zFrm_refl (by decide)) (by decide)) (by decide)) (by decide)) (by decide), ⟨zMs_star hM, hD.2.1, hD.2.2.1, hD.2.2.2.1, hD.2.2.2.2.1, zMh_ex ⟨rfl, rfl⟩ (fun a ha => zStarI_ne (by omega)) hD.2.2.2.2.2.1, zMl_ex rfl (fun a ha => by rw [zup_ne (by omega), zup_ne (by omega), zup_ne (by omega), zup_ne (by omega), zup_ne (by omega)]) hD.2.2.2.2.2.2⟩⟩
      · have e10 : ns = 10 := (nI_eq (by omega) (by omega)).mp (hK.1.1.symm.trans (hM.1.1.symm.trans h23) : nI ns = nI 10)
        have e : zAdd V ns c 5 5 = (-3, V) := by unfold zAdd; rw [if_neg (fun q => q ⟨c1, m55⟩), if_neg (fun q => q c2), if_pos (by omega)]
        rw [e]
        refine zBipush d_X12_star_26 (v := -3) bc_m3 (q := 28) rfl ?_
        refine zGoto d_X12_star_28 (q := 38) (by decide) ?_
        refine zIret d_X12_star_38 rfl rfl rfl ?_
        first
        | exact ⟨_, rfl, rfl, I, rfl, zFrm_refl, hD⟩
        | exact ⟨_, rfl, rfl, _, rfl, zFrm_up (zFrm_up (zFrm_up (zFrm_up (zFrm_up zFrm_refl (by decide)) (by decide)) (by decide)) (by decide)) (by decide), ⟨zMs_star hM, hD.2.1, hD.2.2.1, hD.2.2.2.1, hD.2.2.2.2.1, zMh_ex ⟨rfl, rfl⟩ (fun a ha => zStarI_ne (by omega)) hD.2.2.2.2.2.1, zMl_ex rfl (fun a ha => by rw [zup_ne (by omega), zup_ne (by omega), zup_ne (by omega), zup_ne (by omega), zup_ne (by omega)]) hD.2.2.2.2.2.2⟩⟩
    · have e : zAdd V ns c 5 5 = (-1, V) := by unfold zAdd; rw [if_neg (fun q => q ⟨c1, m55⟩), if_pos (fun q => h12 (hz.mpr q))]
      refine zIconst d_X12_star_15 (v := -1) ic_m1 (q := 16) rfl ?_
      refine zIret d_X12_star_16 rfl rfl rfl ?_
      rw [e]; exact ⟨_, rfl, rfl, I, rfl, zFrm_refl, hD⟩
theorem sp_X12_thrower (hd : 2 ≤ d) (hD : zMd I L V K pg) (hK : zSky V ns nt nh) {f : Int32} : zSp g l d 100 m_X12_thrower [.ref 64, .int f] (zU I L fs) (zX (fun x w => (¬ zMay 6 f ∧ x = -1 ∧ w = zU I L fs) ∨ (zMay 6 f ∧ 4 ≤ nt ∧ x = -3 ∧ w = zU I L fs) ∨ (zMay 6 f ∧ nt < 4 ∧ x = nI nt ∧ ∃ J, w = zU J L fs ∧ zFrm I J ∧ zMd J L (zThrI V nt f) K pg))) := by
  have hM := hD.1
  have hn := hK.2.2.1
  have e1 : I 64 8 = nI nt := hM.1.2.1.trans hK.1.2.1
  have e2 : I 64 8 + 1 = nI (nt + 1) := by rw [e1, nI_1]
  have hc : zMay 6 f ↔ (0 ≤ f ∧ f ≤ 9) := ⟨fun q => q.2, fun q => ⟨by decide, q⟩⟩
  rw [hc]
  refine zSp_of (lv := [(0, .ref 64), (1, .int f)]) k_X12_thrower rfl (Nat.le_of_ble_eq_true rfl) ?_
  refine zIloadN d_X12_thrower_0 rfl rfl (q := 1) rfl ?_
  refine zIconst d_X12_thrower_1 (v := 0) ic_0 (q := 2) rfl ?_
  refine zBipush d_X12_thrower_2 (v := 9) bc_9 (q := 4) rfl ?_
  refine zCallSP d_X12_thrower_4 ml_X12_127 k_X12_in kt_X12_in (sp_X12_in (d := d - 1) (by omega) ) rfl rfl (Nat.le_of_ble_eq_true rfl) (by decide) (by omega) zns100 (q := 7) rfl ?_
  refine zIf_ne d_X12_thrower_7 (tgt := 12) (q := 10) (by decide) rfl (fun h7 => ?_) (fun h7 => ?_)
  · refine zAloadN d_X12_thrower_12 rfl rfl (q := 13) rfl ?_
    refine zGetI d_X12_thrower_13 ff_X12_131 sh_64 (by decide) (q := 16) rfl ?_
    refine zIconst d_X12_thrower_16 (v := 4) ic_4 (q := 17) rfl ?_
    refine zIcmp_ne d_X12_thrower_17 (tgt := 23) (q := 20) (by decide) rfl (fun h17 => ?_) (fun h17 => ?_)
    · have n4 : nt < 4 := by rcases Nat.eq_or_lt_of_le hn with q | q; exact absurd (e1.trans (by rw [q]; rfl)) h17; exact q
      refine zAloadN d_X12_thrower_23 rfl rfl (q := 24) rfl ?_
      refine zGetR d_X12_thrower_24 ff_X12_30 sh_64 (by decide) r_64_9 (q := 27) rfl ?_
      refine zAloadN d_X12_thrower_27 rfl rfl (q := 28) rfl ?_
      refine zGetI d_X12_thrower_28 ff_X12_131 sh_64 (by decide) (q := 31) rfl ?_
      refine zIloadN d_X12_thrower_31 rfl rfl (q := 32) rfl ?_
      refine zIast d_X12_thrower_32 sh_71 (by decide) e1 (by omega) (q := 33) rfl ?_
      refine zAloadN d_X12_thrower_33 rfl rfl (q := 34) rfl ?_
      refine zGetR d_X12_thrower_34 ff_X12_33 sh_64 (by decide) r_64_10 (q := 37) rfl ?_
      refine zAloadN d_X12_thrower_37 rfl rfl (q := 38) rfl ?_
      refine zGetI d_X12_thrower_38 ff_X12_131 sh_64 (by decide) (q := 41) rfl ?_
      refine zIconst d_X12_thrower_41 (v := 3) ic_3 (q := 42) rfl ?_
      refine zIast d_X12_thrower_42 sh_72 (by decide) e1 (by omega) (q := 43) rfl ?_
      refine zAloadN d_X12_thrower_43 rfl rfl (q := 44) rfl ?_
      refine zDup d_X12_thrower_44 rfl (q := 45) rfl ?_
      refine zGetI d_X12_thrower_45 ff_X12_131 sh_64 (by decide) (q := 48) rfl ?_
      refine zIconst d_X12_thrower_48 (v := 1) ic_1 (q := 49) rfl ?_
      refine zIadd d_X12_thrower_49 (q := 50) rfl ?_
      rw [show (zup (zup I 71 (zup (I 71) nt f)) 72 (zup ((zup I 71 (zup (I 71) nt f)) 72) nt 3)) 64 8 + 1 = nI (nt + 1) from e2]
      refine zPutI d_X12_thrower_50 ff_X12_131 rfl rfl rfl sh_64 (by decide) (q := 53) rfl ?_
      refine zAloadN d_X12_thrower_53 rfl rfl (q := 54) rfl ?_
      refine zGetI d_X12_thrower_54 ff_X12_131 sh_64 (by decide) (q := 57) rfl ?_
      refine zIconst d_X12_thrower_57 (v := 1) ic_1 (q := 58) rfl ?_
      refine zIsub d_X12_thrower_58 (q := 59) rfl ?_
      refine zIret d_X12_thrower_59 rfl rfl rfl ?_
      refine ⟨_, rfl, Or.inr (Or.inr ⟨bi_n0.mp h7, n4, nI_pred nt, _, rfl, zFrm_up (zFrm_up (zFrm_up zFrm_refl (by decide)) (by decide)) (by decide), ⟨?_, hD.2.1, hD.2.2.1, hD.2.2.2.1, hD.2.2.2.2.1, zMh_ex ⟨rfl, rfl⟩ (fun a ha => zThrI_ne (by omega)) hD.2.2.2.2.2.1, zMl_ex rfl (fun a ha => by rw [zup_ne (by omega), zup_ne (by omega), zup_ne (by omega)]) hD.2.2.2.2.2.2⟩⟩)⟩
      obtain ⟨⟨m1, m2, m3⟩, ⟨mc, mb, ms, ma, mu, mg, mf, mp, mn⟩, ⟨mm, md, mz⟩, ml⟩ := hM
      refine ⟨⟨m1, rfl, m3⟩, ⟨mc, mb, ms, ma, mu, mg, ?_, ?_, mn⟩, ⟨mm, md, mz⟩, ml⟩
      · show zup (I 71) nt f = zup (V 9) nt f; rw [mf]
      · show zup (I 72) nt 3 = zup (V 10) nt 3; rw [mp]
    · refine zBipush d_X12_thrower_20 (v := -3) bc_m3 (q := 22) rfl ?_
      refine zIret d_X12_thrower_22 rfl rfl rfl ?_
      exact ⟨_, rfl, Or.inr (Or.inl ⟨bi_n0.mp h7, Nat.le_of_eq ((nI_eq (a := 4) (by omega) (by omega)).mp (h17.symm.trans e1)), rfl, rfl⟩)⟩
  · refine zIconst d_X12_thrower_10 (v := -1) ic_m1 (q := 11) rfl ?_
    refine zIret d_X12_thrower_11 rfl rfl rfl ?_
    exact ⟨_, rfl, Or.inl ⟨bi_0.mp h7, rfl, rfl⟩⟩
theorem sp_X12_ship (hd : 2 ≤ d) (hD : zMd I L V K pg) (hK : zSky V ns nt nh) {f : Int32} : zSp g l d 100 m_X12_ship [.ref 64, .int f] (zU I L fs) (zX (fun x w => (¬ zMay 8 f ∧ x = -1 ∧ w = zU I L fs) ∨ (zMay 8 f ∧ 6 ≤ nh ∧ x = -3 ∧ w = zU I L fs) ∨ (zMay 8 f ∧ nh < 6 ∧ x = nI nh ∧ ∃ J, w = zU J L fs ∧ zFrm I J ∧ zMd J L (zShpI V nh f) K pg))) := by
  have hM := hD.1
  have hn := hK.2.2.2
  have e1 : I 64 11 = nI nh := hM.1.2.2.trans hK.1.2.2
  have e2 : I 64 11 + 1 = nI (nh + 1) := by rw [e1, nI_1]
  have hc : zMay 8 f ↔ (1 ≤ f ∧ f ≤ 1023) := ⟨fun q => q.2, fun q => ⟨by decide, q⟩⟩
  rw [hc]
  refine zSp_of (lv := [(0, .ref 64), (1, .int f)]) k_X12_ship rfl (Nat.le_of_ble_eq_true rfl) ?_
  refine zIloadN d_X12_ship_0 rfl rfl (q := 1) rfl ?_
  refine zIconst d_X12_ship_1 (v := 1) ic_1 (q := 2) rfl ?_
  refine zSipush d_X12_ship_2 (v := 1023) sc_1023 (q := 5) rfl ?_
  refine zCallSP d_X12_ship_5 ml_X12_127 k_X12_in kt_X12_in (sp_X12_in (d := d - 1) (by omega) ) rfl rfl (Nat.le_of_ble_eq_true rfl) (by decide) (by omega) zns100 (q := 8) rfl ?_
  refine zIf_ne d_X12_ship_8 (tgt := 13) (q := 11) (by decide) rfl (fun h8 => ?_) (fun h8 => ?_)
  · refine zAloadN d_X12_ship_13 rfl rfl (q := 14) rfl ?_
    refine zGetI d_X12_ship_14 ff_X12_157 sh_64 (by decide) (q := 17) rfl ?_
    refine zBipush d_X12_ship_17 (v := 6) bc_6 (q := 19) rfl ?_
    refine zIcmp_ne d_X12_ship_19 (tgt := 25) (q := 22) (by decide) rfl (fun h19 => ?_) (fun h19 => ?_)
    · have n6 : nh < 6 := by rcases Nat.eq_or_lt_of_le hn with q | q; exact absurd (e1.trans (by rw [q]; rfl)) h19; exact q
      refine zAloadN d_X12_ship_25 rfl rfl (q := 26) rfl ?_
      refine zGetR d_X12_ship_26 ff_X12_36 sh_64 (by decide) r_64_12 (q := 29) rfl ?_
      refine zAloadN d_X12_ship_29 rfl rfl (q := 30) rfl ?_
      refine zGetI d_X12_ship_30 ff_X12_157 sh_64 (by decide) (q := 33) rfl ?_
      refine zIloadN d_X12_ship_33 rfl rfl (q := 34) rfl ?_
      refine zIast d_X12_ship_34 sh_73 (by decide) e1 (by omega) (q := 35) rfl ?_
      refine zAloadN d_X12_ship_35 rfl rfl (q := 36) rfl ?_
      refine zDup d_X12_ship_36 rfl (q := 37) rfl ?_
      refine zGetI d_X12_ship_37 ff_X12_157 sh_64 (by decide) (q := 40) rfl ?_
      refine zIconst d_X12_ship_40 (v := 1) ic_1 (q := 41) rfl ?_
      refine zIadd d_X12_ship_41 (q := 42) rfl ?_
      rw [show (zup I 73 (zup (I 73) nh f)) 64 11 + 1 = nI (nh + 1) from e2]
      refine zPutI d_X12_ship_42 ff_X12_157 rfl rfl rfl sh_64 (by decide) (q := 45) rfl ?_
      refine zAloadN d_X12_ship_45 rfl rfl (q := 46) rfl ?_
      refine zGetI d_X12_ship_46 ff_X12_157 sh_64 (by decide) (q := 49) rfl ?_
      refine zIconst d_X12_ship_49 (v := 1) ic_1 (q := 50) rfl ?_
      refine zIsub d_X12_ship_50 (q := 51) rfl ?_
      refine zIret d_X12_ship_51 rfl rfl rfl ?_
      refine ⟨_, rfl, Or.inr (Or.inr ⟨bi_n0.mp h8, n6, nI_pred nh, _, rfl, zFrm_up (zFrm_up zFrm_refl (by decide)) (by decide), ⟨?_, hD.2.1, hD.2.2.1, hD.2.2.2.1, hD.2.2.2.2.1, zMh_ex ⟨rfl, rfl⟩ (fun a ha => zShpI_ne (by omega)) hD.2.2.2.2.2.1, zMl_ex rfl (fun a ha => by rw [zup_ne (by omega), zup_ne (by omega)]) hD.2.2.2.2.2.2⟩⟩)⟩
      obtain ⟨⟨m1, m2, m3⟩, ⟨mc, mb, ms, ma, mu, mg, mf, mp, mn⟩, ⟨mm, md, mz⟩, ml⟩ := hM
      refine ⟨⟨m1, m2, rfl⟩, ⟨mc, mb, ms, ma, mu, mg, mf, mp, ?_⟩, ⟨mm, md, mz⟩, ml⟩
      show zup (I 73) nh f = zup (V 11) nh f; rw [mn]
    · refine zBipush d_X12_ship_22 (v := -3) bc_m3 (q := 24) rfl ?_
      refine zIret d_X12_ship_24 rfl rfl rfl ?_
      exact ⟨_, rfl, Or.inr (Or.inl ⟨bi_n0.mp h8, Nat.le_of_eq ((nI_eq (a := 6) (by omega) (by omega)).mp (h19.symm.trans e1)), rfl, rfl⟩)⟩
  · refine zIconst d_X12_ship_11 (v := -1) ic_m1 (q := 12) rfl ?_
    refine zIret d_X12_ship_12 rfl rfl rfl ?_
    exact ⟨_, rfl, Or.inl ⟨bi_0.mp h8, rfl, rfl⟩⟩
end S40

