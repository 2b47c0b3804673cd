theorem d_X12_element_0 : decode (zmc m_X12_element) 0 = .ok (.aload_n 0, 1) := by decide +kernel
theorem d_X12_element_1 : decode (zmc m_X12_element) 1 = .ok (.iload_n 1, 1) := by decide +kernel
theorem d_X12_element_2 : decode (zmc m_X12_element) 2 = .ok (.iload_n 2, 1) := by decide +kernel
theorem d_X12_element_3 : decode (zmc m_X12_element) 3 = .ok (.invokevirtual 424, 3) := by decide +kernel
theorem d_X12_element_6 : decode (zmc m_X12_element) 6 = .ok (.ifCond .ge 9, 3) := by decide +kernel
theorem d_X12_element_9 : decode (zmc m_X12_element) 9 = .ok (.ldc2_w 286, 3) := by decide +kernel
theorem d_X12_element_12 : decode (zmc m_X12_element) 12 = .ok (.goto 14, 3) := by decide +kernel
theorem d_X12_element_15 : decode (zmc m_X12_element) 15 = .ok (.aload_n 0, 1) := by decide +kernel
theorem d_X12_element_16 : decode (zmc m_X12_element) 16 = .ok (.getfield 113, 3) := by decide +kernel
theorem d_X12_element_19 : decode (zmc m_X12_element) 19 = .ok (.bipush 60, 2) := by decide +kernel
theorem d_X12_element_21 : decode (zmc m_X12_element) 21 = .ok (.iload_n 1, 1) := by decide +kernel
theorem d_X12_element_22 : decode (zmc m_X12_element) 22 = .ok (.imul, 1) := by decide +kernel
theorem d_X12_element_23 : decode (zmc m_X12_element) 23 = .ok (.iload_n 2, 1) := by decide +kernel
theorem d_X12_element_24 : decode (zmc m_X12_element) 24 = .ok (.iadd, 1) := by decide +kernel
theorem d_X12_element_25 : decode (zmc m_X12_element) 25 = .ok (.laload, 1) := by decide +kernel
theorem d_X12_element_26 : decode (zmc m_X12_element) 26 = .ok (.lreturn, 1) := by decide +kernel
theorem d_X12_put_0 : decode (zmc m_X12_put) 0 = .ok (.aload_n 0, 1) := by decide +kernel
theorem d_X12_put_1 : decode (zmc m_X12_put) 1 = .ok (.iload_n 1, 1) := by decide +kernel
theorem d_X12_put_2 : decode (zmc m_X12_put) 2 = .ok (.iload_n 2, 1) := by decide +kernel
theorem d_X12_put_3 : decode (zmc m_X12_put) 3 = .ok (.invokevirtual 424, 3) := by decide +kernel
theorem d_X12_put_6 : decode (zmc m_X12_put) 6 = .ok (.istore 5, 2) := by decide +kernel
theorem d_X12_put_8 : decode (zmc m_X12_put) 8 = .ok (.iload 5, 2) := by decide +kernel
theorem d_X12_put_10 : decode (zmc m_X12_put) 10 = .ok (.ifCond .ge 6, 3) := by decide +kernel
theorem d_X12_put_13 : decode (zmc m_X12_put) 13 = .ok (.iload 5, 2) := by decide +kernel
theorem d_X12_put_15 : decode (zmc m_X12_put) 15 = .ok (.ireturn, 1) := by decide +kernel
theorem d_X12_put_16 : decode (zmc m_X12_put) 16 = .ok (.bipush (-2), 2) := by decide +kernel
theorem d_X12_put_18 : decode (zmc m_X12_put) 18 = .ok (.aload_n 0, 1) := by decide +kernel
theorem d_X12_put_19 : decode (zmc m_X12_put) 19 = .ok (.getfield 107, 3) := by decide +kernel
theorem d_X12_put_22 : decode (zmc m_X12_put) 22 = .ok (.iload_n 1, 1) := by decide +kernel
theorem d_X12_put_23 : decode (zmc m_X12_put) 23 = .ok (.iaload, 1) := by decide +kernel
theorem d_X12_put_24 : decode (zmc m_X12_put) 24 = .ok (.isub, 1) := by decide +kernel
theorem d_X12_put_25 : decode (zmc m_X12_put) 25 = .ok (.istore 6, 2) := by decide +kernel
theorem d_X12_put_27 : decode (zmc m_X12_put) 27 = .ok (.aload_n 0, 1) := by decide +kernel
theorem d_X12_put_28 : decode (zmc m_X12_put) 28 = .ok (.getfield 113, 3) := by decide +kernel
theorem d_X12_put_31 : decode (zmc m_X12_put) 31 = .ok (.bipush 60, 2) := by decide +kernel
theorem d_X12_put_33 : decode (zmc m_X12_put) 33 = .ok (.iload_n 1, 1) := by decide +kernel
theorem d_X12_put_34 : decode (zmc m_X12_put) 34 = .ok (.imul, 1) := by decide +kernel
theorem d_X12_put_35 : decode (zmc m_X12_put) 35 = .ok (.iload_n 2, 1) := by decide +kernel
theorem d_X12_put_36 : decode (zmc m_X12_put) 36 = .ok (.iadd, 1) := by decide +kernel
theorem d_X12_put_37 : decode (zmc m_X12_put) 37 = .ok (.iload 6, 2) := by decide +kernel
theorem d_X12_put_39 : decode (zmc m_X12_put) 39 = .ok (.ifCond .ne 10, 3) := by decide +kernel
theorem d_X12_put_42 : decode (zmc m_X12_put) 42 = .ok (.lload_n 3, 1) := by decide +kernel
theorem d_X12_put_43 : decode (zmc m_X12_put) 43 = .ok (.l2i, 1) := by decide +kernel
theorem d_X12_put_44 : decode (zmc m_X12_put) 44 = .ok (.i2b, 1) := by decide +kernel
theorem d_X12_put_45 : decode (zmc m_X12_put) 45 = .ok (.i2l, 1) := by decide +kernel
theorem d_X12_put_46 : decode (zmc m_X12_put) 46 = .ok (.goto 49, 3) := by decide +kernel
theorem d_X12_put_49 : decode (zmc m_X12_put) 49 = .ok (.iload 6, 2) := by decide +kernel
theorem d_X12_put_51 : decode (zmc m_X12_put) 51 = .ok (.iconst 1, 1) := by decide +kernel
theorem d_X12_put_52 : decode (zmc m_X12_put) 52 = .ok (.if_icmp .ne 10, 3) := by decide +kernel
theorem d_X12_put_55 : decode (zmc m_X12_put) 55 = .ok (.lload_n 3, 1) := by decide +kernel
theorem d_X12_put_56 : decode (zmc m_X12_put) 56 = .ok (.l2i, 1) := by decide +kernel
theorem d_X12_put_57 : decode (zmc m_X12_put) 57 = .ok (.i2s, 1) := by decide +kernel
theorem d_X12_put_58 : decode (zmc m_X12_put) 58 = .ok (.i2l, 1) := by decide +kernel
theorem d_X12_put_59 : decode (zmc m_X12_put) 59 = .ok (.goto 36, 3) := by decide +kernel
theorem d_X12_put_62 : decode (zmc m_X12_put) 62 = .ok (.iload 6, 2) := by decide +kernel
theorem d_X12_put_64 : decode (zmc m_X12_put) 64 = .ok (.iconst 2, 1) := by decide +kernel
theorem d_X12_put_65 : decode (zmc m_X12_put) 65 = .ok (.if_icmp .ne 9, 3) := by decide +kernel
theorem d_X12_put_68 : decode (zmc m_X12_put) 68 = .ok (.lload_n 3, 1) := by decide +kernel
theorem d_X12_put_69 : decode (zmc m_X12_put) 69 = .ok (.l2i, 1) := by decide +kernel
theorem d_X12_put_70 : decode (zmc m_X12_put) 70 = .ok (.i2l, 1) := by decide +kernel
theorem d_X12_put_71 : decode (zmc m_X12_put) 71 = .ok (.goto 24, 3) := by decide +kernel
theorem d_X12_put_74 : decode (zmc m_X12_put) 74 = .ok (.iload 6, 2) := by decide +kernel
theorem d_X12_put_76 : decode (zmc m_X12_put) 76 = .ok (.iconst 3, 1) := by decide +kernel
theorem d_X12_put_77 : decode (zmc m_X12_put) 77 = .ok (.if_icmp .ne 7, 3) := by decide +kernel
theorem d_X12_put_80 : decode (zmc m_X12_put) 80 = .ok (.lload_n 3, 1) := by decide +kernel
theorem d_X12_put_81 : decode (zmc m_X12_put) 81 = .ok (.goto 14, 3) := by decide +kernel
theorem d_X12_put_84 : decode (zmc m_X12_put) 84 = .ok (.lload_n 3, 1) := by decide +kernel
theorem d_X12_put_85 : decode (zmc m_X12_put) 85 = .ok (.lconst 0, 1) := by decide +kernel
theorem d_X12_put_86 : decode (zmc m_X12_put) 86 = .ok (.lcmp, 1) := by decide +kernel
theorem d_X12_put_87 : decode (zmc m_X12_put) 87 = .ok (.ifCond .eq 7, 3) := by decide +kernel
theorem d_X12_put_90 : decode (zmc m_X12_put) 90 = .ok (.lconst 1, 1) := by decide +kernel
theorem d_X12_put_91 : decode (zmc m_X12_put) 91 = .ok (.goto 4, 3) := by decide +kernel
theorem d_X12_put_94 : decode (zmc m_X12_put) 94 = .ok (.lconst 0, 1) := by decide +kernel
theorem d_X12_put_95 : decode (zmc m_X12_put) 95 = .ok (.lastore, 1) := by decide +kernel
theorem d_X12_put_96 : decode (zmc m_X12_put) 96 = .ok (.iconst 1, 1) := by decide +kernel
theorem d_X12_put_97 : decode (zmc m_X12_put) 97 = .ok (.ireturn, 1) := by decide +kernel
theorem d_X12_taken_0 : decode (zmc m_X12_taken) 0 = .ok (.iload_n 1, 1) := by decide +kernel
theorem d_X12_taken_1 : decode (zmc m_X12_taken) 1 = .ok (.invokestatic 152, 3) := by decide +kernel
theorem d_X12_taken_4 : decode (zmc m_X12_taken) 4 = .ok (.ifCond .eq 13, 3) := by decide +kernel
theorem d_X12_taken_7 : decode (zmc m_X12_taken) 7 = .ok (.iload_n 2, 1) := by decide +kernel
theorem d_X12_taken_8 : decode (zmc m_X12_taken) 8 = .ok (.iconst 0, 1) := by decide +kernel
theorem d_X12_taken_9 : decode (zmc m_X12_taken) 9 = .ok (.bipush 7, 2) := by decide +kernel
theorem d_X12_taken_11 : decode (zmc m_X12_taken) 11 = .ok (.invokestatic 127, 3) := by decide +kernel
theorem d_X12_taken_14 : decode (zmc m_X12_taken) 14 = .ok (.ifCond .ne 5, 3) := by decide +kernel
theorem d_X12_taken_17 : decode (zmc m_X12_taken) 17 = .ok (.iconst (-1), 1) := by decide +kernel
theorem d_X12_taken_18 : decode (zmc m_X12_taken) 18 = .ok (.ireturn, 1) := by decide +kernel
theorem d_X12_taken_19 : decode (zmc m_X12_taken) 19 = .ok (.aload_n 0, 1) := by decide +kernel
theorem d_X12_taken_20 : decode (zmc m_X12_taken) 20 = .ok (.getfield 107, 3) := by decide +kernel
theorem d_X12_taken_23 : decode (zmc m_X12_taken) 23 = .ok (.iload_n 1, 1) := by decide +kernel
theorem d_X12_taken_24 : decode (zmc m_X12_taken) 24 = .ok (.iaload, 1) := by decide +kernel
theorem d_X12_taken_25 : decode (zmc m_X12_taken) 25 = .ok (.iconst (-1), 1) := by decide +kernel
theorem d_X12_taken_26 : decode (zmc m_X12_taken) 26 = .ok (.if_icmp .ne 6, 3) := by decide +kernel
theorem d_X12_taken_29 : decode (zmc m_X12_taken) 29 = .ok (.bipush (-11), 2) := by decide +kernel
theorem d_X12_taken_31 : decode (zmc m_X12_taken) 31 = .ok (.ireturn, 1) := by decide +kernel
theorem d_X12_taken_32 : decode (zmc m_X12_taken) 32 = .ok (.aload_n 0, 1) := by decide +kernel
theorem d_X12_taken_33 : decode (zmc m_X12_taken) 33 = .ok (.getfield 107, 3) := by decide +kernel
theorem d_X12_taken_36 : decode (zmc m_X12_taken) 36 = .ok (.iload_n 1, 1) := by decide +kernel
theorem d_X12_taken_37 : decode (zmc m_X12_taken) 37 = .ok (.iaload, 1) := by decide +kernel
theorem d_X12_taken_38 : decode (zmc m_X12_taken) 38 = .ok (.ifCond .lt 35, 3) := by decide +kernel
theorem d_X12_taken_41 : decode (zmc m_X12_taken) 41 = .ok (.aload_n 0, 1) := by decide +kernel
theorem d_X12_taken_42 : decode (zmc m_X12_taken) 42 = .ok (.getfield 101, 3) := by decide +kernel
theorem d_X12_taken_45 : decode (zmc m_X12_taken) 45 = .ok (.aload_n 0, 1) := by decide +kernel
theorem d_X12_taken_46 : decode (zmc m_X12_taken) 46 = .ok (.getfield 107, 3) := by decide +kernel
theorem d_X12_taken_49 : decode (zmc m_X12_taken) 49 = .ok (.iload_n 1, 1) := by decide +kernel
theorem d_X12_taken_50 : decode (zmc m_X12_taken) 50 = .ok (.iaload, 1) := by decide +kernel
theorem d_X12_taken_51 : decode (zmc m_X12_taken) 51 = .ok (.iaload, 1) := by decide +kernel
theorem d_X12_taken_52 : decode (zmc m_X12_taken) 52 = .ok (.iload_n 2, 1) := by decide +kernel
theorem d_X12_taken_53 : decode (zmc m_X12_taken) 53 = .ok (.invokestatic 388, 3) := by decide +kernel
theorem d_X12_taken_56 : decode (zmc m_X12_taken) 56 = .ok (.ifCond .eq 17, 3) := by decide +kernel
theorem d_X12_taken_59 : decode (zmc m_X12_taken) 59 = .ok (.aload_n 0, 1) := by decide +kernel
theorem d_X12_taken_60 : decode (zmc m_X12_taken) 60 = .ok (.getfield 101, 3) := by decide +kernel
theorem d_X12_taken_63 : decode (zmc m_X12_taken) 63 = .ok (.aload_n 0, 1) := by decide +kernel
theorem d_X12_taken_64 : decode (zmc m_X12_taken) 64 = .ok (.getfield 107, 3) := by decide +kernel
theorem d_X12_taken_67 : decode (zmc m_X12_taken) 67 = .ok (.iload_n 1, 1) := by decide +kernel
theorem d_X12_taken_68 : decode (zmc m_X12_taken) 68 = .ok (.iaload, 1) := by decide +kernel
theorem d_X12_taken_69 : decode (zmc m_X12_taken) 69 = .ok (.iaload, 1) := by decide +kernel
theorem d_X12_taken_70 : decode (zmc m_X12_taken) 70 = .ok (.goto 5, 3) := by decide +kernel
theorem d_X12_taken_73 : decode (zmc m_X12_taken) 73 = .ok (.bipush (-12), 2) := by decide +kernel
theorem d_X12_taken_75 : decode (zmc m_X12_taken) 75 = .ok (.ireturn, 1) := by decide +kernel
theorem d_X12_whyNoPlace_0 : decode (zmc m_X12_whyNoPlace) 0 = .ok (.iload_n 1, 1) := by decide +kernel
theorem d_X12_whyNoPlace_1 : decode (zmc m_X12_whyNoPlace) 1 = .ok (.invokestatic 152, 3) := by decide +kernel
theorem d_X12_whyNoPlace_4 : decode (zmc m_X12_whyNoPlace) 4 = .ok (.ifCond .ne 5, 3) := by decide +kernel
theorem d_X12_whyNoPlace_7 : decode (zmc m_X12_whyNoPlace) 7 = .ok (.iconst (-1), 1) := by decide +kernel
theorem d_X12_whyNoPlace_8 : decode (zmc m_X12_whyNoPlace) 8 = .ok (.ireturn, 1) := by decide +kernel
theorem d_X12_whyNoPlace_9 : decode (zmc m_X12_whyNoPlace) 9 = .ok (.aload_n 0, 1) := by decide +kernel
theorem d_X12_whyNoPlace_10 : decode (zmc m_X12_whyNoPlace) 10 = .ok (.getfield 107, 3) := by decide +kernel
theorem d_X12_whyNoPlace_13 : decode (zmc m_X12_whyNoPlace) 13 = .ok (.iload_n 1, 1) := by decide +kernel
theorem d_X12_whyNoPlace_14 : decode (zmc m_X12_whyNoPlace) 14 = .ok (.iaload, 1) := by decide +kernel
theorem d_X12_whyNoPlace_15 : decode (zmc m_X12_whyNoPlace) 15 = .ok (.iconst (-1), 1) := by decide +kernel
theorem d_X12_whyNoPlace_16 : decode (zmc m_X12_whyNoPlace) 16 = .ok (.if_icmp .ne 6, 3) := by decide +kernel
theorem d_X12_whyNoPlace_19 : decode (zmc m_X12_whyNoPlace) 19 = .ok (.bipush (-11), 2) := by decide +kernel
theorem d_X12_whyNoPlace_21 : decode (zmc m_X12_whyNoPlace) 21 = .ok (.ireturn, 1) := by decide +kernel
theorem d_X12_whyNoPlace_22 : decode (zmc m_X12_whyNoPlace) 22 = .ok (.aload_n 0, 1) := by decide +kernel
theorem d_X12_whyNoPlace_23 : decode (zmc m_X12_whyNoPlace) 23 = .ok (.getfield 107, 3) := by decide +kernel
theorem d_X12_whyNoPlace_26 : decode (zmc m_X12_whyNoPlace) 26 = .ok (.iload_n 1, 1) := by decide +kernel
theorem d_X12_whyNoPlace_27 : decode (zmc m_X12_whyNoPlace) 27 = .ok (.iaload, 1) := by decide +kernel
theorem d_X12_whyNoPlace_28 : decode (zmc m_X12_whyNoPlace) 28 = .ok (.ifCond .lt 6, 3) := by decide +kernel
theorem d_X12_whyNoPlace_31 : decode (zmc m_X12_whyNoPlace) 31 = .ok (.bipush (-12), 2) := by decide +kernel
theorem d_X12_whyNoPlace_33 : decode (zmc m_X12_whyNoPlace) 33 = .ok (.ireturn, 1) := by decide +kernel
theorem d_X12_whyNoPlace_34 : decode (zmc m_X12_whyNoPlace) 34 = .ok (.iload_n 2, 1) := by decide +kernel
theorem d_X12_whyNoPlace_35 : decode (zmc m_X12_whyNoPlace) 35 = .ok (.iconst 0, 1) := by decide +kernel
theorem d_X12_whyNoPlace_36 : decode (zmc m_X12_whyNoPlace) 36 = .ok (.aload_n 0, 1) := by decide +kernel
theorem d_X12_whyNoPlace_37 : decode (zmc m_X12_whyNoPlace) 37 = .ok (.getfield 110, 3) := by decide +kernel
theorem d_X12_whyNoPlace_40 : decode (zmc m_X12_whyNoPlace) 40 = .ok (.iload_n 1, 1) := by decide +kernel
theorem d_X12_whyNoPlace_41 : decode (zmc m_X12_whyNoPlace) 41 = .ok (.iaload, 1) := by decide +kernel
theorem d_X12_whyNoPlace_42 : decode (zmc m_X12_whyNoPlace) 42 = .ok (.iconst 1, 1) := by decide +kernel
theorem d_X12_whyNoPlace_43 : decode (zmc m_X12_whyNoPlace) 43 = .ok (.isub, 1) := by decide +kernel
theorem d_X12_whyNoPlace_44 : decode (zmc m_X12_whyNoPlace) 44 = .ok (.invokestatic 127, 3) := by decide +kernel
theorem d_X12_whyNoPlace_47 : decode (zmc m_X12_whyNoPlace) 47 = .ok (.ifCond .eq 7, 3) := by decide +kernel
theorem d_X12_whyNoPlace_50 : decode (zmc m_X12_whyNoPlace) 50 = .ok (.iconst 0, 1) := by decide +kernel
theorem d_X12_whyNoPlace_51 : decode (zmc m_X12_whyNoPlace) 51 = .ok (.goto 5, 3) := by decide +kernel
theorem d_X12_whyNoPlace_54 : decode (zmc m_X12_whyNoPlace) 54 = .ok (.bipush (-13), 2) := by decide +kernel
theorem d_X12_whyNoPlace_56 : decode (zmc m_X12_whyNoPlace) 56 = .ok (.ireturn, 1) := by decide +kernel
/-! THE REFERENCE: rows' elements -/
theorem yUn_zUl' : ∀ k, k < 8 → ∀ u, u < 8 → decide (zUl 8 (nI k) (nI u) = nI u) = decide (yUn (nI k) (nI u)) := by decide +kernel
theorem yUn_zUl (k : Nat) (hk : k < 8) (u : Nat) (hu : u < 8) : zUl 8 (nI k) (nI u) = nI u ↔ yUn (nI k) (nI u) := decide_eq_decide.mp (yUn_zUl' k hk u hu)
section S49
variable {g : zG} {l : Launch} {d : Nat} {I V : Nat → Nat → Int32} {L K : Nat → Nat → Int64} {fs : Nat × Nat × Option Nat} {ns nt nh nb : Nat} {pg : Option (List zLine)}
def yWhy (f : Nat → Int32) (i : Int32) : Int32 := if f 1 = -1 then -11 else if f 1 = 5 then -12 else if 0 ≤ i ∧ i < f 2 then 0 else -13
theorem sp_X12_whyNoPlace0 {i n : Int32} (hd : 3 ≤ d) (hi : ¬ (0 ≤ i ∧ i < 6)) : zPure g l d m_X12_whyNoPlace [.ref 64, .int i, .int n] I L fs (.int (-1)) := by
  refine zSp_of (lv := [(0, .ref 64), (1, .int i), (2, .int n)]) k_X12_whyNoPlace rfl (Nat.le_of_ble_eq_true rfl) ?_
  refine zIloadN d_X12_whyNoPlace_0 rfl rfl (q := 1) rfl ?_
  refine zCallSP d_X12_whyNoPlace_1 ml_X12_152 k_X12_isShelf kt_X12_isShelf (sp_X12_isShelf (d := d - 1) (by omega) ) rfl rfl (Nat.le_of_ble_eq_true rfl) (by decide) (by omega) zns100 (q := 4) rfl ?_
  refine zIf_ne d_X12_whyNoPlace_4 (tgt := 9) (q := 7) (by decide) rfl (fun h => absurd h (by rw [zshelf_out hi]; decide)) (fun h4 => ?_)
  refine zIconst d_X12_whyNoPlace_7 (v := -1) ic_m1 (q := 8) rfl ?_
  refine zIret d_X12_whyNoPlace_8 rfl rfl rfl ?_
  exact zPi rfl
theorem sp_X12_whyNoPlace (hd : 3 ≤ d) (hH : zMh I V L K) (hB : zBh V nb) (h50 : nb ≤ 50) {q : Nat} (hq : q < 6) {i : Int32} : zPure g l d m_X12_whyNoPlace [.ref 64, .int (nI q), .int i] I L fs (.int (yWhy (V (42 + 2 * q)) i)) := by
  have e96 := (hH q hq).2.1
  have e97 := (hH q hq).1
  obtain ⟨m, hm, em⟩ := (hB q hq).2
  refine zSp_of (lv := [(0, .ref 64), (1, .int (nI q)), (2, .int i)]) k_X12_whyNoPlace rfl (Nat.le_of_ble_eq_true rfl) ?_
  refine zIloadN d_X12_whyNoPlace_0 rfl rfl (q := 1) rfl ?_
  refine zCallSP d_X12_whyNoPlace_1 ml_X12_152 k_X12_isShelf kt_X12_isShelf (sp_X12_isShelf (d := d - 1) (by omega) ) rfl rfl (Nat.le_of_ble_eq_true rfl) (by decide) (by omega) zns100 (q := 4) rfl ?_
  refine zIf_ne d_X12_whyNoPlace_4 (tgt := 9) (q := 7) (by decide) rfl (fun h4 => ?_) (fun h => absurd h (zshelf_in hq))
  refine zAloadN d_X12_whyNoPlace_9 rfl rfl (q := 10) rfl ?_
  refine zGetR d_X12_whyNoPlace_10 ff_X12_107 sh_64 (by decide) r_64_53 (q := 13) rfl ?_
  refine zIloadN d_X12_whyNoPlace_13 rfl rfl (q := 14) rfl ?_
  refine zIald d_X12_whyNoPlace_14 sh_96 (by decide) rfl hq (q := 15) rfl ?_
  rw [e96]
  refine zIconst d_X12_whyNoPlace_15 (v := -1) ic_m1 (q := 16) rfl ?_
  refine zIcmp_ne d_X12_whyNoPlace_16 (tgt := 22) (q := 19) (by decide) rfl (fun h16 => ?_) (fun h16 => ?_)
  · refine zAloadN d_X12_whyNoPlace_22 rfl rfl (q := 23) rfl ?_
    refine zGetR d_X12_whyNoPlace_23 ff_X12_107 sh_64 (by decide) r_64_53 (q := 26) rfl ?_
    refine zIloadN d_X12_whyNoPlace_26 rfl rfl (q := 27) rfl ?_
    refine zIald d_X12_whyNoPlace_27 sh_96 (by decide) rfl hq (q := 28) rfl ?_
    rw [e96]
    refine zIf_lt d_X12_whyNoPlace_28 (tgt := 34) (q := 31) (by decide) rfl (fun h28 => ?_) (fun h28 => ?_)
    · refine zIloadN d_X12_whyNoPlace_34 rfl rfl (q := 35) rfl ?_
      refine zIconst d_X12_whyNoPlace_35 (v := 0) ic_0 (q := 36) rfl ?_
      refine zAloadN d_X12_whyNoPlace_36 rfl rfl (q := 37) rfl ?_
      refine zGetR d_X12_whyNoPlace_37 ff_X12_110 sh_64 (by decide) r_64_54 (q := 40) rfl ?_
      refine zIloadN d_X12_whyNoPlace_40 rfl rfl (q := 41) rfl ?_
      refine zIald d_X12_whyNoPlace_41 sh_97 (by decide) rfl hq (q := 42) rfl ?_
      rw [e97, em]
      refine zIconst d_X12_whyNoPlace_42 (v := 1) ic_1 (q := 43) rfl ?_
      refine zIsub d_X12_whyNoPlace_43 (q := 44) rfl ?_
      refine zCallSP d_X12_whyNoPlace_44 ml_X12_127 k_X12_in kt_X12_in (sp_X12_in (d := d - 1) (by omega) ) rfl rfl (Nat.le_of_ble_eq_true rfl) (by decide) (by omega) zns100 (q := 47) rfl ?_
      refine zIf_eq d_X12_whyNoPlace_47 (tgt := 54) (q := 50) (by decide) rfl (fun h47 => ?_) (fun h47 => ?_)
      · refine zBipush d_X12_whyNoPlace_54 (v := -13) bc_m13 (q := 56) rfl ?_
        refine zIret d_X12_whyNoPlace_56 rfl rfl rfl ?_
        unfold yWhy
        rw [em]
        rcases zHc_cases h50 (hB q hq) with ⟨e, e2⟩ | ⟨s, hs, e, e2⟩ | ⟨e, p, hp, e3, e2⟩
        · rw [e2] at h16; first | exact absurd rfl h16 | (rw [if_pos e]; exact zPi rfl)
        · have z := zHc_row s hs
          rw [e2] at h16
          first
          | exact absurd h16 z.2.2.2.1
          | (exfalso; rw [e2] at h28; have := z.2.2.2.2.1; grind)
          | (rw [if_neg (by rw [e]; exact z.1), if_neg (by rw [e]; exact z.2.1)]; first | exact zPi (if_pos (by have := bi_n0.mp h47; rw [zle_pred (by omega)] at this; exact this)).symm | exact zPi (if_neg (by have := bi_0.mp h47; rw [zle_pred (by omega)] at this; exact this)).symm)
        · have p0 := zn_ge (k := p) (by omega)
          rw [e2] at h16
          first
          | (exfalso; rw [h16] at p0; exact absurd p0 (by decide))
          | (exfalso; rw [e2] at h28; grind)
          | (rw [if_neg (by rw [e]; decide), if_pos e]; exact zPi rfl)
      · refine zIconst d_X12_whyNoPlace_50 (v := 0) ic_0 (q := 51) rfl ?_
        refine zGoto d_X12_whyNoPlace_51 (q := 56) (by decide) ?_
        refine zIret d_X12_whyNoPlace_56 rfl rfl rfl ?_
        unfold yWhy
        rw [em]
        rcases zHc_cases h50 (hB q hq) with ⟨e, e2⟩ | ⟨s, hs, e, e2⟩ | ⟨e, p, hp, e3, e2⟩
        · rw [e2] at h16; first | exact absurd rfl h16 | (rw [if_pos e]; exact zPi rfl)
        · have z := zHc_row s hs
          rw [e2] at h16
          first
          | exact absurd h16 z.2.2.2.1
          | (exfalso; rw [e2] at h28; have := z.2.2.2.2.1; grind)
          | (rw [if_neg (by rw [e]; exact z.1), if_neg (by rw [e]; exact z.2.1)]; first | exact zPi (if_pos (by have := bi_n0.mp h47; rw [zle_pred (by omega)] at this; exact this)).symm | exact zPi (if_neg (by have := bi_0.mp h47; rw [zle_pred (by omega)] at this; exact this)).symm)
        · have p0 := zn_ge (k := p) (by omega)
          rw [e2] at h16
          first
          | (exfalso; rw [h16] at p0; exact absurd p0 (by decide))
          | (exfalso; rw [e2] at h28; grind)
          | (rw [if_neg (by rw [e]; decide), if_pos e]; exact zPi rfl)
    · refine zBipush d_X12_whyNoPlace_31 (v := -12) bc_m12 (q := 33) rfl ?_
      refine zIret d_X12_whyNoPlace_33 rfl rfl rfl ?_
      unfold yWhy
      rw [em]
      rcases zHc_cases h50 (hB q hq) with ⟨e, e2⟩ | ⟨s, hs, e, e2⟩ | ⟨e, p, hp, e3, e2⟩
      · rw [e2] at h16; first | exact absurd rfl h16 | (rw [if_pos e]; exact zPi rfl)
      · have z := zHc_row s hs
        rw [e2] at h16
        first
        | exact absurd h16 z.2.2.2.1
        | (exfalso; rw [e2] at h28; have := z.2.2.2.2.1; grind)
        | (rw [if_neg (by rw [e]; exact z.1), if_neg (by rw [e]; exact z.2.1)]; first | exact zPi (if_pos (by have := bi_n0.mp h47; rw [zle_pred (by omega)] at this; exact this)).symm | exact zPi (if_neg (by have := bi_0.mp h47; rw [zle_pred (by omega)] at this; exact this)).symm)
      · have p0 := zn_ge (k := p) (by omega)
        rw [e2] at h16
        first
        | (exfalso; rw [h16] at p0; exact absurd p0 (by decide))
        | (exfalso; rw [e2] at h28; grind)
        | (rw [if_neg (by rw [e]; decide), if_pos e]; exact zPi rfl)
  · refine zBipush d_X12_whyNoPlace_19 (v := -11) bc_m11 (q := 21) rfl ?_
    refine zIret d_X12_whyNoPlace_21 rfl rfl rfl ?_
    unfold yWhy
    rw [em]
    rcases zHc_cases h50 (hB q hq) with ⟨e, e2⟩ | ⟨s, hs, e, e2⟩ | ⟨e, p, hp, e3, e2⟩
    · rw [e2] at h16; first | exact absurd rfl h16 | (rw [if_pos e]; exact zPi rfl)
    · have z := zHc_row s hs
      rw [e2] at h16
      first
      | exact absurd h16 z.2.2.2.1
      | (exfalso; rw [e2] at h28; have := z.2.2.2.2.1; grind)
      | (rw [if_neg (by rw [e]; exact z.1), if_neg (by rw [e]; exact z.2.1)]; first | exact zPi (if_pos (by have := bi_n0.mp h47; rw [zle_pred (by omega)] at this; exact this)).symm | exact zPi (if_neg (by have := bi_0.mp h47; rw [zle_pred (by omega)] at this; exact this)).symm)
    · have p0 := zn_ge (k := p) (by omega)
      rw [e2] at h16
      first
      | (exfalso; rw [h16] at p0; exact absurd p0 (by decide))
      | (exfalso; rw [e2] at h28; grind)
      | (rw [if_neg (by rw [e]; decide), if_pos e]; exact zPi rfl)
theorem sp_X12_element0 {i n : Int32} (hd : 4 ≤ d) (hi : ¬ (0 ≤ i ∧ i < 6)) : zPure g l d m_X12_element [.ref 64, .int i, .int n] I L fs (.long (-9223372036854775808)) := by
  refine zSp_of (lv := [(0, .ref 64), (1, .int i), (2, .int n)]) k_X12_element rfl (Nat.le_of_ble_eq_true rfl) ?_
  refine zAloadN d_X12_element_0 rfl rfl (q := 1) rfl ?_
  refine zIloadN d_X12_element_1 rfl rfl (q := 2) rfl ?_
  refine zIloadN d_X12_element_2 rfl rfl (q := 3) rfl ?_
  refine zCallVP d_X12_element_3 ml_X12_424 k_X12_whyNoPlace ki_X12_whyNoPlace ks_X12_whyNoPlace (sp_X12_whyNoPlace0 (d := d - 1) (by omega) hi) rfl rfl sh_64 (by decide) rfl (by decide) (Nat.le_of_ble_eq_true rfl) (by decide) (by omega) zns100 (q := 6) rfl ?_
  refine zIf_ge d_X12_element_6 (tgt := 15) (q := 9) (by decide) rfl (fun h => absurd h (by decide)) (fun h6 => ?_)
  refine zLdc2 d_X12_element_9 co_X12_286 (q := 12) rfl ?_
  refine zGoto d_X12_element_12 (q := 26) (by decide) ?_
  refine zLret d_X12_element_26 rfl rfl ?_
  exact zPl rfl
theorem yWhy_ok {f : Nat → Int32} {i : Int32} (h : zShB f nb) : (¬ 0 ≤ yWhy f i ∧ ¬ ((0 ≤ f 1 ∧ f 1 ≤ 4) ∧ (0 ≤ i ∧ i < f 2)) ∧ yWhy f i = (if ¬ (0 ≤ f 1 ∧ f 1 ≤ 4) then (if f 1 = -1 then -11 else -12) else -13)) ∨ (0 ≤ yWhy f i ∧ (0 ≤ f 1 ∧ f 1 ≤ 4) ∧ (0 ≤ i ∧ i < f 2) ∧ ∃ s, s < 5 ∧ f 1 = nI s) := by
  unfold yWhy
  rcases h.1 with e | ⟨s, hs, e⟩ | ⟨e, -⟩
  · rw [e, if_pos rfl]; exact Or.inl ⟨by decide, fun y => absurd y.1.1 (by decide), by rw [if_pos (by decide), if_pos rfl]⟩
  · have z := zHc_row s hs
    rw [if_neg (by rw [e]; exact z.1), if_neg (by rw [e]; exact z.2.1)]
    by_cases c : 0 ≤ i ∧ i < f 2
    · rw [if_pos c]; exact Or.inr ⟨by decide, by rw [e]; exact z.2.2.1, c, s, hs, e⟩
    · rw [if_neg c]; exact Or.inl ⟨by decide, fun y => c y.2, by rw [if_neg (by rw [e]; exact fun y => y z.2.2.1)]⟩
  · rw [e, if_neg (by decide), if_pos rfl]; exact Or.inl ⟨by decide, fun y => absurd y.1.2 (by decide), by rw [if_pos (by decide), if_neg (by decide)]⟩
theorem sp_X12_element (hd : 4 ≤ d) (hH : zMh I V L K) (hB : zBh V nb) (h50 : nb ≤ 50) {q m : Nat} (hq : q < 6) (hm : V (42 + 2 * q) 2 = nI m) (hm2 : m ≤ 60) {n : Int32} : zPure g l d m_X12_element [.ref 64, .int (nI q), .int n] I L fs (.long (if (0 ≤ V (42 + 2 * q) 1 ∧ V (42 + 2 * q) 1 ≤ 4) ∧ (0 ≤ n ∧ n < nI m) then K (43 + 2 * q) n.toNatClampNeg else -9223372036854775808)) := by
  rcases yWhy_ok (i := n) (hB q hq) with ⟨h1, h2, -⟩ | ⟨h1, h2, h3, -⟩
  · rw [hm] at h2
    rw [if_neg h2]
    refine zSp_of (lv := [(0, .ref 64), (1, .int (nI q)), (2, .int n)]) k_X12_element rfl (Nat.le_of_ble_eq_true rfl) ?_
    refine zAloadN d_X12_element_0 rfl rfl (q := 1) rfl ?_
    refine zIloadN d_X12_element_1 rfl rfl (q := 2) rfl ?_
    refine zIloadN d_X12_element_2 rfl rfl (q := 3) rfl ?_
    refine zCallVP d_X12_element_3 ml_X12_424 k_X12_whyNoPlace ki_X12_whyNoPlace ks_X12_whyNoPlace (sp_X12_whyNoPlace (d := d - 1) (by omega) hH hB h50 hq) rfl rfl sh_64 (by decide) rfl (by decide) (Nat.le_of_ble_eq_true rfl) (by decide) (by omega) zns100 (q := 6) rfl ?_
    refine zIf_ge d_X12_element_6 (tgt := 15) (q := 9) (by decide) rfl (fun h => absurd h h1) (fun h6 => ?_)
    refine zLdc2 d_X12_element_9 co_X12_286 (q := 12) rfl ?_
    refine zGoto d_X12_element_12 (q := 26) (by decide) ?_
    refine zLret d_X12_element_26 rfl rfl ?_
    exact zPl rfl
  · rw [hm] at h3
    rw [if_pos ⟨h2, h3⟩]
    obtain ⟨j, hj, rfl⟩ := zn1 (by omega) h3.1 h3.2
    rw [zcl_n (by omega)]
    refine zSp_of (lv := [(0, .ref 64), (1, .int (nI q)), (2, .int (nI j))]) k_X12_element rfl (Nat.le_of_ble_eq_true rfl) ?_
    refine zAloadN d_X12_element_0 rfl rfl (q := 1) rfl ?_
    refine zIloadN d_X12_element_1 rfl rfl (q := 2) rfl ?_
    refine zIloadN d_X12_element_2 rfl rfl (q := 3) rfl ?_
    refine zCallVP d_X12_element_3 ml_X12_424 k_X12_whyNoPlace ki_X12_whyNoPlace ks_X12_whyNoPlace (sp_X12_whyNoPlace (d := d - 1) (by omega) hH hB h50 hq) rfl rfl sh_64 (by decide) rfl (by decide) (Nat.le_of_ble_eq_true rfl) (by decide) (by omega) zns100 (q := 6) rfl ?_
    refine zIf_ge d_X12_element_6 (tgt := 15) (q := 9) (by decide) rfl (fun h6 => ?_) (fun h => absurd h1 h)
    refine zAloadN d_X12_element_15 rfl rfl (q := 16) rfl ?_
    refine zGetR d_X12_element_16 ff_X12_113 sh_64 (by decide) r_64_55 (q := 19) rfl ?_
    refine zBipush d_X12_element_19 (v := 60) bc_60 (q := 21) rfl ?_
    refine zIloadN d_X12_element_21 rfl rfl (q := 22) rfl ?_
    refine zImul d_X12_element_22 (q := 23) rfl ?_
    refine zIloadN d_X12_element_23 rfl rfl (q := 24) rfl ?_
    refine zIadd d_X12_element_24 (q := 25) rfl ?_
    refine zLald d_X12_element_25 sh_98 (by decide) (z60 q j) (by omega) (q := 26) rfl ?_
    refine zLret d_X12_element_26 rfl rfl ?_
    exact zPl ((hH q hq).2.2 j (by omega))
theorem sp_X12_put0 {i n : Int32} {v : Int64} (hd : 4 ≤ d) (hi : ¬ (0 ≤ i ∧ i < 6)) : zPure g l d m_X12_put [.ref 64, .int i, .int n, .long v] I L fs (.int (-1)) := by
  refine zSp_of (lv := [(0, .ref 64), (1, .int i), (2, .int n), (3, .long v)]) k_X12_put rfl (Nat.le_of_ble_eq_true rfl) ?_
  refine zAloadN d_X12_put_0 rfl rfl (q := 1) rfl ?_
  refine zIloadN d_X12_put_1 rfl rfl (q := 2) rfl ?_
  refine zIloadN d_X12_put_2 rfl rfl (q := 3) rfl ?_
  refine zCallVP d_X12_put_3 ml_X12_424 k_X12_whyNoPlace ki_X12_whyNoPlace ks_X12_whyNoPlace (sp_X12_whyNoPlace0 (d := d - 1) (by omega) hi) rfl rfl sh_64 (by decide) rfl (by decide) (Nat.le_of_ble_eq_true rfl) (by decide) (by omega) zns100 (q := 6) rfl ?_
  refine zIstore d_X12_put_6 (by decide) rfl (q := 8) rfl ?_
  refine zIload d_X12_put_8 rfl (q := 10) rfl ?_
  refine zIf_ge d_X12_put_10 (tgt := 16) (q := 13) (by decide) rfl (fun h => absurd h (by decide)) (fun h10 => ?_)
  refine zIload d_X12_put_13 rfl (q := 15) rfl ?_
  refine zIret d_X12_put_15 rfl rfl rfl ?_
  exact zPi rfl
theorem sp_X12_put {q m : Nat} {n : Int32} {v : Int64} (hd : 4 ≤ d) (hD : zMd I L V K pg) (hB : zBh V nb) (h50 : nb ≤ 50) (hq : q < 6) (hm : V (42 + 2 * q) 2 = nI m) (hm2 : m ≤ 60) : zSp g l d 100 m_X12_put [.ref 64, .int (nI q), .int n, .long v] (zU I L fs) (zX (fun x w =>
    (¬ (0 ≤ V (42 + 2 * q) 1 ∧ V (42 + 2 * q) 1 ≤ 4) ∧ x = (if V (42 + 2 * q) 1 = -1 then -11 else -12) ∧ w = zU I L fs) ∨ ((0 ≤ V (42 + 2 * q) 1 ∧ V (42 + 2 * q) 1 ≤ 4) ∧ ¬ (0 ≤ n ∧ n < nI m) ∧ x = -13 ∧ w = zU I L fs) ∨
    ((0 ≤ V (42 + 2 * q) 1 ∧ V (42 + 2 * q) 1 ≤ 4) ∧ (0 ≤ n ∧ n < nI m) ∧ x = 1 ∧ ∃ L', w = zU I L' fs ∧ (∀ a, a < 64 → L' a = L a) ∧ zMd I L' V (zup K (43 + 2 * q) (zup (K (43 + 2 * q)) n.toNatClampNeg (zLow (V (42 + 2 * q) 1) v))) pg))) := by
  have hH := hD.2.2.2.2.2.1
  rcases yWhy_ok (i := n) (hB q hq) with ⟨h1, h2, h3⟩ | ⟨h1, h2, h3, s, hs, es⟩
  · rw [hm] at h2
    refine zSp_of (lv := [(0, .ref 64), (1, .int (nI q)), (2, .int n), (3, .long v)]) k_X12_put rfl (Nat.le_of_ble_eq_true rfl) ?_
    refine zAloadN d_X12_put_0 rfl rfl (q := 1) rfl ?_
    refine zIloadN d_X12_put_1 rfl rfl (q := 2) rfl ?_
    refine zIloadN d_X12_put_2 rfl rfl (q := 3) rfl ?_
    refine zCallVP d_X12_put_3 ml_X12_424 k_X12_whyNoPlace ki_X12_whyNoPlace ks_X12_whyNoPlace (sp_X12_whyNoPlace (d := d - 1) (by omega) hH hB h50 hq) rfl rfl sh_64 (by decide) rfl (by decide) (Nat.le_of_ble_eq_true rfl) (by decide) (by omega) zns100 (q := 6) rfl ?_
    refine zIstore d_X12_put_6 (by decide) rfl (q := 8) rfl ?_
    refine zIload d_X12_put_8 rfl (q := 10) rfl ?_
    refine zIf_ge d_X12_put_10 (tgt := 16) (q := 13) (by decide) rfl (fun h => absurd h h1) (fun h10 => ?_)
    refine zIload d_X12_put_13 rfl (q := 15) rfl ?_
    refine zIret d_X12_put_15 rfl rfl rfl ?_
    refine ⟨_, rfl, ?_⟩
    by_cases c : 0 ≤ V (42 + 2 * q) 1 ∧ V (42 + 2 * q) 1 ≤ 4
    · rw [h3.trans (if_neg (fun y => y c))]
      exact Or.inr (Or.inl ⟨c, fun y => h2 ⟨c, y⟩, rfl, rfl⟩)
    · rw [h3.trans (if_pos c)]
      exact Or.inl ⟨c, rfl, rfl⟩
  · rw [hm] at h3
    obtain ⟨j, hj, rfl⟩ := zn1 (by omega) h3.1 h3.2
    rw [zcl_n (by omega)]
    have e96 : I 96 q = -2 - nI s := by
      rw [(hH q hq).2.1]
      unfold zHc
      rw [es, if_neg (zHc_row s hs).1, if_neg (zHc_row s hs).2.1]
    have e2 : (-2 : Int32) - I 96 q = nI s := by rw [e96]; exact (zHc_row s hs).2.2.2.2.2.2
    have fin : ∀ y, y = zLow (nI s) v → zX (fun x w =>
    (¬ (0 ≤ V (42 + 2 * q) 1 ∧ V (42 + 2 * q) 1 ≤ 4) ∧ x = (if V (42 + 2 * q) 1 = -1 then -11 else -12) ∧ w = zU I L fs) ∨ ((0 ≤ V (42 + 2 * q) 1 ∧ V (42 + 2 * q) 1 ≤ 4) ∧ ¬ (0 ≤ nI j ∧ nI j < nI m) ∧ x = -13 ∧ w = zU I L fs) ∨
    ((0 ≤ V (42 + 2 * q) 1 ∧ V (42 + 2 * q) 1 ≤ 4) ∧ (0 ≤ nI j ∧ nI j < nI m) ∧ x = 1 ∧ ∃ L', w = zU I L' fs ∧ (∀ a, a < 64 → L' a = L a) ∧ zMd I L' V (zup K (43 + 2 * q) (zup (K (43 + 2 * q)) j (zLow (V (42 + 2 * q) 1) v))) pg)) (some (.int 1)) (zU I (zup L 98 (zup (L 98) (60 * q + j) y)) fs) := by
      rintro y rfl
      refine ⟨_, rfl, Or.inr (Or.inr ⟨h2, h3, rfl, _, rfl, fun a ha => zup_ne (by omega), ?_⟩)⟩
      refine zMd_h (I := I) (V := V) (L := L) (K := K) (fun a _ _ => rfl) (fun a ha => rfl) ?_ hD
      refine zMh_at hq hH (fun k hk => rfl) (fun k hk => rfl) (fun k i hk hi => by rw [zup_eq, zup_ne (by omega)]) (fun _ _ => rfl) (fun a ha => zup_ne ha) (hH q hq).1 (hH q hq).2.1 (fun i hi => ?_)
      rw [zup_eq, zup_eq, es]
      by_cases e : i = j
      · subst e; rw [zup_eq, zup_eq]
      · rw [zup_ne (by omega), zup_ne e]; exact (hH q hq).2.2 i hi
    refine zSp_of (lv := [(0, .ref 64), (1, .int (nI q)), (2, .int (nI j)), (3, .long v)]) k_X12_put rfl (Nat.le_of_ble_eq_true rfl) ?_
    refine zAloadN d_X12_put_0 rfl rfl (q := 1) rfl ?_
    refine zIloadN d_X12_put_1 rfl rfl (q := 2) rfl ?_
    refine zIloadN d_X12_put_2 rfl rfl (q := 3) rfl ?_
    refine zCallVP d_X12_put_3 ml_X12_424 k_X12_whyNoPlace ki_X12_whyNoPlace ks_X12_whyNoPlace (sp_X12_whyNoPlace (d := d - 1) (by omega) hH hB h50 hq) rfl rfl sh_64 (by decide) rfl (by decide) (Nat.le_of_ble_eq_true rfl) (by decide) (by omega) zns100 (q := 6) rfl ?_
    refine zIstore d_X12_put_6 (by decide) rfl (q := 8) rfl ?_
    refine zIload d_X12_put_8 rfl (q := 10) rfl ?_
    refine zIf_ge d_X12_put_10 (tgt := 16) (q := 13) (by decide) rfl (fun h10 => ?_) (fun h => absurd h1 h)
    refine zBipush d_X12_put_16 (v := -2) bc_m2 (q := 18) rfl ?_
    refine zAloadN d_X12_put_18 rfl rfl (q := 19) rfl ?_
    refine zGetR d_X12_put_19 ff_X12_107 sh_64 (by decide) r_64_53 (q := 22) rfl ?_
    refine zIloadN d_X12_put_22 rfl rfl (q := 23) rfl ?_
    refine zIald d_X12_put_23 sh_96 (by decide) rfl hq (q := 24) rfl ?_
    refine zIsub d_X12_put_24 (q := 25) rfl ?_
    rw [e2]
    refine zIstore d_X12_put_25 (by decide) rfl (q := 27) rfl ?_
    refine zAloadN d_X12_put_27 rfl rfl (q := 28) rfl ?_
    refine zGetR d_X12_put_28 ff_X12_113 sh_64 (by decide) r_64_55 (q := 31) rfl ?_
    refine zBipush d_X12_put_31 (v := 60) bc_60 (q := 33) rfl ?_
    refine zIloadN d_X12_put_33 rfl rfl (q := 34) rfl ?_
    refine zImul d_X12_put_34 (q := 35) rfl ?_
    refine zIloadN d_X12_put_35 rfl rfl (q := 36) rfl ?_
    refine zIadd d_X12_put_36 (q := 37) rfl ?_
    refine zIload d_X12_put_37 rfl (q := 39) rfl ?_
    refine zIf_ne d_X12_put_39 (tgt := 49) (q := 42) (by decide) rfl (fun h39 => ?_) (fun h39 => ?_)
    · refine zIload d_X12_put_49 rfl (q := 51) rfl ?_
      refine zIconst d_X12_put_51 (v := 1) ic_1 (q := 52) rfl ?_
      refine zIcmp_ne d_X12_put_52 (tgt := 62) (q := 55) (by decide) rfl (fun h52 => ?_) (fun h52 => ?_)
      · refine zIload d_X12_put_62 rfl (q := 64) rfl ?_
        refine zIconst d_X12_put_64 (v := 2) ic_2 (q := 65) rfl ?_
        refine zIcmp_ne d_X12_put_65 (tgt := 74) (q := 68) (by decide) rfl (fun h65 => ?_) (fun h65 => ?_)
        · refine zIload d_X12_put_74 rfl (q := 76) rfl ?_
          refine zIconst d_X12_put_76 (v := 3) ic_3 (q := 77) rfl ?_
          refine zIcmp_ne d_X12_put_77 (tgt := 84) (q := 80) (by decide) rfl (fun h77 => ?_) (fun h77 => ?_)
          · refine zLloadN d_X12_put_84 rfl rfl (q := 85) rfl ?_
            refine zLconst d_X12_put_85 (v := 0) rfl (q := 86) rfl ?_
            refine zLcmp d_X12_put_86 (q := 87) rfl ?_
            refine zIf_eq d_X12_put_87 (tgt := 94) (q := 90) (by decide) rfl (fun h87 => ?_) (fun h87 => ?_)
            · refine zLconst d_X12_put_94 (v := 0) rfl (q := 95) rfl ?_
              refine zLast d_X12_put_95 sh_98 (by decide) (z60 q j) (by omega) (q := 96) rfl ?_
              refine zIconst d_X12_put_96 (v := 1) ic_1 (q := 97) rfl ?_
              refine zIret d_X12_put_97 rfl rfl rfl ?_
              refine fin _ ?_
              unfold zLow
              obtain rfl | rfl | rfl | rfl | rfl : s = 0 ∨ s = 1 ∨ s = 2 ∨ s = 3 ∨ s = 4 := by omega
              · first | rfl | exact absurd rfl h39
              · first | rfl | exact absurd h39 (by decide) | exact absurd rfl h52
              · first | rfl | exact absurd h39 (by decide) | exact absurd h52 (by decide) | exact absurd rfl h65
              · first | rfl | exact absurd h39 (by decide) | exact absurd h52 (by decide) | exact absurd h65 (by decide) | exact absurd rfl h77
              · first | exact absurd h39 (by decide) | exact absurd h52 (by decide) | exact absurd h65 (by decide) | exact absurd h77 (by decide) | exact (if_pos h87).symm | exact (if_neg h87).symm
            · refine zLconst d_X12_put_90 (v := 1) rfl (q := 91) rfl ?_
              refine zGoto d_X12_put_91 (q := 95) (by decide) ?_
              refine zLast d_X12_put_95 sh_98 (by decide) (z60 q j) (by omega) (q := 96) rfl ?_
              refine zIconst d_X12_put_96 (v := 1) ic_1 (q := 97) rfl ?_
              refine zIret d_X12_put_97 rfl rfl rfl ?_
              refine fin _ ?_
              unfold zLow
              obtain rfl | rfl | rfl | rfl | rfl : s = 0 ∨ s = 1 ∨ s = 2 ∨ s = 3 ∨ s = 4 := by omega
              · first | rfl | exact absurd rfl h39
              · first | rfl | exact absurd h39 (by decide) | exact absurd rfl h52
              · first | rfl | exact absurd h39 (by decide) | exact absurd h52 (by decide) | exact absurd rfl h65
              · first | rfl | exact absurd h39 (by decide) | exact absurd h52 (by decide) | exact absurd h65 (by decide) | exact absurd rfl h77
              · first | exact absurd h39 (by decide) | exact absurd h52 (by decide) | exact absurd h65 (by decide) | exact absurd h77 (by decide) | exact (if_pos h87).symm | exact (if_neg h87).symm
          · refine zLloadN d_X12_put_80 rfl rfl (q := 81) rfl ?_
            refine zGoto d_X12_put_81 (q := 95) (by decide) ?_
            refine zLast d_X12_put_95 sh_98 (by decide) (z60 q j) (by omega) (q := 96) rfl ?_
            refine zIconst d_X12_put_96 (v := 1) ic_1 (q := 97) rfl ?_
            refine zIret d_X12_put_97 rfl rfl rfl ?_
            refine fin _ ?_
            unfold zLow
            obtain rfl | rfl | rfl | rfl | rfl : s = 0 ∨ s = 1 ∨ s = 2 ∨ s = 3 ∨ s = 4 := by omega
            · first | rfl | exact absurd rfl h39
            · first | rfl | exact absurd h39 (by decide) | exact absurd rfl h52
            · first | rfl | exact absurd h39 (by decide) | exact absurd h52 (by decide) | exact absurd rfl h65
            · first | rfl | exact absurd h39 (by decide) | exact absurd h52 (by decide) | exact absurd h65 (by decide) | exact absurd rfl h77
            · first | exact absurd h39 (by decide) | exact absurd h52 (by decide) | exact absurd h65 (by decide) | exact absurd h77 (by decide) | exact (if_pos h87).symm | exact (if_neg h87).symm
        · refine zLloadN d_X12_put_68 rfl rfl (q := 69) rfl ?_
          refine zL2i d_X12_put_69 (q := 70) rfl ?_
          refine zI2l d_X12_put_70 (q := 71) rfl ?_
          refine zGoto d_X12_put_71 (q := 95) (by decide) ?_
          refine zLast d_X12_put_95 sh_98 (by decide) (z60 q j) (by omega) (q := 96) rfl ?_
          refine zIconst d_X12_put_96 (v := 1) ic_1 (q := 97) rfl ?_
          refine zIret d_X12_put_97 rfl rfl rfl ?_
          refine fin _ ?_
          unfold zLow
          obtain rfl | rfl | rfl | rfl | rfl : s = 0 ∨ s = 1 ∨ s = 2 ∨ s = 3 ∨ s = 4 := by omega
          · first | rfl | exact absurd rfl h39
          · first | rfl | exact absurd h39 (by decide) | exact absurd rfl h52
          · first | rfl | exact absurd h39 (by decide) | exact absurd h52 (by decide) | exact absurd rfl h65
          · first | rfl | exact absurd h39 (by decide) | exact absurd h52 (by decide) | exact absurd h65 (by decide) | exact absurd rfl h77
          · first | exact absurd h39 (by decide) | exact absurd h52 (by decide) | exact absurd h65 (by decide) | exact absurd h77 (by decide) | exact (if_pos h87).symm | exact (if_neg h87).symm
      · refine zLloadN d_X12_put_55 rfl rfl (q := 56) rfl ?_
        refine zL2i d_X12_put_56 (q := 57) rfl ?_
        refine zI2s d_X12_put_57 (q := 58) rfl ?_
        refine zI2l d_X12_put_58 (q := 59) rfl ?_
        refine zGoto d_X12_put_59 (q := 95) (by decide) ?_
        refine zLast d_X12_put_95 sh_98 (by decide) (z60 q j) (by omega) (q := 96) rfl ?_
        refine zIconst d_X12_put_96 (v := 1) ic_1 (q := 97) rfl ?_
        refine zIret d_X12_put_97 rfl rfl rfl ?_
        refine fin _ ?_
        unfold zLow
        obtain rfl | rfl | rfl | rfl | rfl : s = 0 ∨ s = 1 ∨ s = 2 ∨ s = 3 ∨ s = 4 := by omega
        · first | rfl | exact absurd rfl h39
        · first | rfl | exact absurd h39 (by decide) | exact absurd rfl h52
        · first | rfl | exact absurd h39 (by decide) | exact absurd h52 (by decide) | exact absurd rfl h65
        · first | rfl | exact absurd h39 (by decide) | exact absurd h52 (by decide) | exact absurd h65 (by decide) | exact absurd rfl h77
        · first | exact absurd h39 (by decide) | exact absurd h52 (by decide) | exact absurd h65 (by decide) | exact absurd h77 (by decide) | exact (if_pos h87).symm | exact (if_neg h87).symm
    · refine zLloadN d_X12_put_42 rfl rfl (q := 43) rfl ?_
      refine zL2i d_X12_put_43 (q := 44) rfl ?_
      refine zI2b d_X12_put_44 (q := 45) rfl ?_
      refine zI2l d_X12_put_45 (q := 46) rfl ?_
      refine zGoto d_X12_put_46 (q := 95) (by decide) ?_
      refine zLast d_X12_put_95 sh_98 (by decide) (z60 q j) (by omega) (q := 96) rfl ?_
      refine zIconst d_X12_put_96 (v := 1) ic_1 (q := 97) rfl ?_
      refine zIret d_X12_put_97 rfl rfl rfl ?_
      refine fin _ ?_
      unfold zLow
      obtain rfl | rfl | rfl | rfl | rfl : s = 0 ∨ s = 1 ∨ s = 2 ∨ s = 3 ∨ s = 4 := by omega
      · first | rfl | exact absurd rfl h39
      · first | rfl | exact absurd h39 (by decide) | exact absurd rfl h52
      · first | rfl | exact absurd h39 (by decide) | exact absurd h52 (by decide) | exact absurd rfl h65
      · first | rfl | exact absurd h39 (by decide) | exact absurd h52 (by decide) | exact absurd h65 (by decide) | exact absurd rfl h77
      · first | exact absurd h39 (by decide) | exact absurd h52 (by decide) | exact absurd h65 (by decide) | exact absurd h77 (by decide) | exact (if_pos h87).symm | exact (if_neg h87).symm
theorem sp_X12_taken0 {i n : Int32} (hd : 3 ≤ d) (hi : ¬ (0 ≤ i ∧ i < 6)) : zPure g l d m_X12_taken [.ref 64, .int i, .int n] I L fs (.int (-1)) := by
  refine zSp_of (lv := [(0, .ref 64), (1, .int i), (2, .int n)]) k_X12_taken rfl (Nat.le_of_ble_eq_true rfl) ?_
  refine zIloadN d_X12_taken_0 rfl rfl (q := 1) rfl ?_
  refine zCallSP d_X12_taken_1 ml_X12_152 k_X12_isShelf kt_X12_isShelf (sp_X12_isShelf (d := d - 1) (by omega) ) rfl rfl (Nat.le_of_ble_eq_true rfl) (by decide) (by omega) zns100 (q := 4) rfl ?_
  refine zIf_eq d_X12_taken_4 (tgt := 17) (q := 7) (by decide) rfl (fun h4 => ?_) (fun h => absurd (zshelf_out hi) h)
  refine zIconst d_X12_taken_17 (v := -1) ic_m1 (q := 18) rfl ?_
  refine zIret d_X12_taken_18 rfl rfl rfl ?_
  exact zPi rfl
theorem sp_X12_taken (hd : 3 ≤ d) (hH : zMh I V L K) (hA : zMa I V) (hB : zBh V nb) (hb : V 38 2 = nI nb) (h50 : nb ≤ 50) (hkd : zKd V nb) {q : Nat} (hq : q < 6) {n : Int32} : zPure g l d m_X12_taken [.ref 64, .int (nI q), .int n] I L fs (.int (if ¬ (0 ≤ n ∧ n < 8) then -1 else if ¬ V (42 + 2 * q) 1 = 5 then (if V (42 + 2 * q) 1 = -1 then -11 else -12) else if zUl 8 (zKo V (V (42 + 2 * q) 3)) n = n then zKo V (V (42 + 2 * q) 3) else -12)) := by
  have e96 := (hH q hq).2.1
  have e94 := hA.2.1
  rcases zHc_cases h50 (hB q hq) with ⟨e, e2⟩ | ⟨s, hs, e, e2⟩ | ⟨e, p, hp, e3, e2⟩
  · rw [e2] at e96
    refine zSp_of (lv := [(0, .ref 64), (1, .int (nI q)), (2, .int n)]) k_X12_taken rfl (Nat.le_of_ble_eq_true rfl) ?_
    refine zIloadN d_X12_taken_0 rfl rfl (q := 1) rfl ?_
    refine zCallSP d_X12_taken_1 ml_X12_152 k_X12_isShelf kt_X12_isShelf (sp_X12_isShelf (d := d - 1) (by omega) ) rfl rfl (Nat.le_of_ble_eq_true rfl) (by decide) (by omega) zns100 (q := 4) rfl ?_
    refine zIf_eq d_X12_taken_4 (tgt := 17) (q := 7) (by decide) rfl (fun h => absurd h (zshelf_in hq)) (fun h4 => ?_)
    refine zIloadN d_X12_taken_7 rfl rfl (q := 8) rfl ?_
    refine zIconst d_X12_taken_8 (v := 0) ic_0 (q := 9) rfl ?_
    refine zBipush d_X12_taken_9 (v := 7) bc_7 (q := 11) rfl ?_
    refine zCallSP d_X12_taken_11 ml_X12_127 k_X12_in kt_X12_in (sp_X12_in (d := d - 1) (by omega) ) rfl rfl (Nat.le_of_ble_eq_true rfl) (by decide) (by omega) zns100 (q := 14) rfl ?_
    refine zIf_ne d_X12_taken_14 (tgt := 19) (q := 17) (by decide) rfl (fun h14 => ?_) (fun h14 => ?_)
    · refine zAloadN d_X12_taken_19 rfl rfl (q := 20) rfl ?_
      refine zGetR d_X12_taken_20 ff_X12_107 sh_64 (by decide) r_64_53 (q := 23) rfl ?_
      refine zIloadN d_X12_taken_23 rfl rfl (q := 24) rfl ?_
      refine zIald d_X12_taken_24 sh_96 (by decide) rfl hq (q := 25) rfl ?_
      rw [e96]
      refine zIconst d_X12_taken_25 (v := -1) ic_m1 (q := 26) rfl ?_
      refine zIcmp_ne d_X12_taken_26 (tgt := 32) (q := 29) (by decide) rfl (fun h => absurd h (by decide)) (fun h26 => ?_)
      refine zBipush d_X12_taken_29 (v := -11) bc_m11 (q := 31) rfl ?_
      refine zIret d_X12_taken_31 rfl rfl rfl ?_
      have c := bi_n0.mp h14
      rw [if_neg (by grind), if_pos (by rw [e]; decide), if_pos e]
      exact zPi rfl
    · refine zIconst d_X12_taken_17 (v := -1) ic_m1 (q := 18) rfl ?_
      refine zIret d_X12_taken_18 rfl rfl rfl ?_
      have c := bi_0.mp h14
      rw [if_pos (by grind)]
      exact zPi rfl
  · have z := zHc_row s hs
    rw [e2] at e96
    refine zSp_of (lv := [(0, .ref 64), (1, .int (nI q)), (2, .int n)]) k_X12_taken rfl (Nat.le_of_ble_eq_true rfl) ?_
    refine zIloadN d_X12_taken_0 rfl rfl (q := 1) rfl ?_
    refine zCallSP d_X12_taken_1 ml_X12_152 k_X12_isShelf kt_X12_isShelf (sp_X12_isShelf (d := d - 1) (by omega) ) rfl rfl (Nat.le_of_ble_eq_true rfl) (by decide) (by omega) zns100 (q := 4) rfl ?_
    refine zIf_eq d_X12_taken_4 (tgt := 17) (q := 7) (by decide) rfl (fun h => absurd h (zshelf_in hq)) (fun h4 => ?_)
    refine zIloadN d_X12_taken_7 rfl rfl (q := 8) rfl ?_
    refine zIconst d_X12_taken_8 (v := 0) ic_0 (q := 9) rfl ?_
    refine zBipush d_X12_taken_9 (v := 7) bc_7 (q := 11) rfl ?_
    refine zCallSP d_X12_taken_11 ml_X12_127 k_X12_in kt_X12_in (sp_X12_in (d := d - 1) (by omega) ) rfl rfl (Nat.le_of_ble_eq_true rfl) (by decide) (by omega) zns100 (q := 14) rfl ?_
    refine zIf_ne d_X12_taken_14 (tgt := 19) (q := 17) (by decide) rfl (fun h14 => ?_) (fun h14 => ?_)
    · refine zAloadN d_X12_taken_19 rfl rfl (q := 20) rfl ?_
      refine zGetR d_X12_taken_20 ff_X12_107 sh_64 (by decide) r_64_53 (q := 23) rfl ?_
      refine zIloadN d_X12_taken_23 rfl rfl (q := 24) rfl ?_
      refine zIald d_X12_taken_24 sh_96 (by decide) rfl hq (q := 25) rfl ?_
      rw [e96]
      refine zIconst d_X12_taken_25 (v := -1) ic_m1 (q := 26) rfl ?_
      refine zIcmp_ne d_X12_taken_26 (tgt := 32) (q := 29) (by decide) rfl (fun h26 => ?_) (fun h => absurd h z.2.2.2.1)
      refine zAloadN d_X12_taken_32 rfl rfl (q := 33) rfl ?_
      refine zGetR d_X12_taken_33 ff_X12_107 sh_64 (by decide) r_64_53 (q := 36) rfl ?_
      refine zIloadN d_X12_taken_36 rfl rfl (q := 37) rfl ?_
      refine zIald d_X12_taken_37 sh_96 (by decide) rfl hq (q := 38) rfl ?_
      rw [e96]
      refine zIf_lt d_X12_taken_38 (tgt := 73) (q := 41) (by decide) rfl (fun h38 => ?_) (fun h => absurd z.2.2.2.2.1 h)
      refine zBipush d_X12_taken_73 (v := -12) bc_m12 (q := 75) rfl ?_
      refine zIret d_X12_taken_75 rfl rfl rfl ?_
      have c := bi_n0.mp h14
      rw [if_neg (by grind), if_pos (by rw [e]; exact z.2.1), if_neg (by rw [e]; exact z.1)]
      exact zPi rfl
    · refine zIconst d_X12_taken_17 (v := -1) ic_m1 (q := 18) rfl ?_
      refine zIret d_X12_taken_18 rfl rfl rfl ?_
      have c := bi_0.mp h14
      rw [if_pos (by grind)]
      exact zPi rfl
  · obtain ⟨k, hk, ek⟩ := hkd p hp
    have p0 := zn_ge (k := p) (by omega)
    rw [e2] at e96
    have hko : zKo V (V (42 + 2 * q) 3) = nI k := by
      rw [e3]; unfold zKo
      rw [hb, if_pos ⟨p0, (nI_ltI (by omega) (by omega)).mpr hp⟩, zcl_n (by omega), ek]
    rw [hko]
    refine zSp_of (lv := [(0, .ref 64), (1, .int (nI q)), (2, .int n)]) k_X12_taken rfl (Nat.le_of_ble_eq_true rfl) ?_
    refine zIloadN d_X12_taken_0 rfl rfl (q := 1) rfl ?_
    refine zCallSP d_X12_taken_1 ml_X12_152 k_X12_isShelf kt_X12_isShelf (sp_X12_isShelf (d := d - 1) (by omega) ) rfl rfl (Nat.le_of_ble_eq_true rfl) (by decide) (by omega) zns100 (q := 4) rfl ?_
    refine zIf_eq d_X12_taken_4 (tgt := 17) (q := 7) (by decide) rfl (fun h => absurd h (zshelf_in hq)) (fun h4 => ?_)
    refine zIloadN d_X12_taken_7 rfl rfl (q := 8) rfl ?_
    refine zIconst d_X12_taken_8 (v := 0) ic_0 (q := 9) rfl ?_
    refine zBipush d_X12_taken_9 (v := 7) bc_7 (q := 11) rfl ?_
    refine zCallSP d_X12_taken_11 ml_X12_127 k_X12_in kt_X12_in (sp_X12_in (d := d - 1) (by omega) ) rfl rfl (Nat.le_of_ble_eq_true rfl) (by decide) (by omega) zns100 (q := 14) rfl ?_
    refine zIf_ne d_X12_taken_14 (tgt := 19) (q := 17) (by decide) rfl (fun h14 => ?_) (fun h14 => ?_)
    · have c := bi_n0.mp h14
      obtain ⟨u, hu, rfl⟩ := zn1 (x := n) (n := 8) (by omega) c.1 (by have := c.2; have e8 : nI 8 = 8 := rfl; grind)
      rw [if_neg (fun y => y ⟨zn_ge (by omega), (nI_ltI (b := 8) (by omega) (by omega)).mpr hu⟩), if_neg (fun y => y e)]
      refine zAloadN d_X12_taken_19 rfl rfl (q := 20) rfl ?_
      refine zGetR d_X12_taken_20 ff_X12_107 sh_64 (by decide) r_64_53 (q := 23) rfl ?_
      refine zIloadN d_X12_taken_23 rfl rfl (q := 24) rfl ?_
      refine zIald d_X12_taken_24 sh_96 (by decide) rfl hq (q := 25) rfl ?_
      rw [e96]
      refine zIconst d_X12_taken_25 (v := -1) ic_m1 (q := 26) rfl ?_
      refine zIcmp_ne d_X12_taken_26 (tgt := 32) (q := 29) (by decide) rfl (fun h26 => ?_) (fun h => absurd h (by intro y; rw [y] at p0; exact absurd p0 (by decide)))
      refine zAloadN d_X12_taken_32 rfl rfl (q := 33) rfl ?_
      refine zGetR d_X12_taken_33 ff_X12_107 sh_64 (by decide) r_64_53 (q := 36) rfl ?_
      refine zIloadN d_X12_taken_36 rfl rfl (q := 37) rfl ?_
      refine zIald d_X12_taken_37 sh_96 (by decide) rfl hq (q := 38) rfl ?_
      rw [e96]
      refine zIf_lt d_X12_taken_38 (tgt := 73) (q := 41) (by decide) rfl (fun h => absurd h (by grind)) (fun h38 => ?_)
      refine zAloadN d_X12_taken_41 rfl rfl (q := 42) rfl ?_
      refine zGetR d_X12_taken_42 ff_X12_101 sh_64 (by decide) r_64_50 (q := 45) rfl ?_
      refine zAloadN d_X12_taken_45 rfl rfl (q := 46) rfl ?_
      refine zGetR d_X12_taken_46 ff_X12_107 sh_64 (by decide) r_64_53 (q := 49) rfl ?_
      refine zIloadN d_X12_taken_49 rfl rfl (q := 50) rfl ?_
      refine zIald d_X12_taken_50 sh_96 (by decide) rfl hq (q := 51) rfl ?_
      rw [e96]
      refine zIald d_X12_taken_51 sh_94 (by decide) rfl (by omega) (q := 52) rfl ?_
      rw [e94, ek]
      refine zIloadN d_X12_taken_52 rfl rfl (q := 53) rfl ?_
      refine zCallSP d_X12_taken_53 ml_X12_388 k_X12_isUnder kt_X12_isUnder (sp_X12_isUnder (d := d - 1) (by omega) ) rfl rfl (Nat.le_of_ble_eq_true rfl) (by decide) (by omega) zns100 (q := 56) rfl ?_
      refine zIf_eq d_X12_taken_56 (tgt := 73) (q := 59) (by decide) rfl (fun h56 => ?_) (fun h56 => ?_)
      · refine zBipush d_X12_taken_73 (v := -12) bc_m12 (q := 75) rfl ?_
        refine zIret d_X12_taken_75 rfl rfl rfl ?_
        first
        | exact zPi (if_pos ((yUn_zUl k hk u hu).mpr (bi_n0.mp h56))).symm
        | exact zPi (if_neg (fun y => bi_0.mp h56 ((yUn_zUl k hk u hu).mp y))).symm
      · refine zAloadN d_X12_taken_59 rfl rfl (q := 60) rfl ?_
        refine zGetR d_X12_taken_60 ff_X12_101 sh_64 (by decide) r_64_50 (q := 63) rfl ?_
        refine zAloadN d_X12_taken_63 rfl rfl (q := 64) rfl ?_
        refine zGetR d_X12_taken_64 ff_X12_107 sh_64 (by decide) r_64_53 (q := 67) rfl ?_
        refine zIloadN d_X12_taken_67 rfl rfl (q := 68) rfl ?_
        refine zIald d_X12_taken_68 sh_96 (by decide) rfl hq (q := 69) rfl ?_
        rw [e96]
        refine zIald d_X12_taken_69 sh_94 (by decide) rfl (by omega) (q := 70) rfl ?_
        rw [e94, ek]
        refine zGoto d_X12_taken_70 (q := 75) (by decide) ?_
        refine zIret d_X12_taken_75 rfl rfl rfl ?_
        first
        | exact zPi (if_pos ((yUn_zUl k hk u hu).mpr (bi_n0.mp h56))).symm
        | exact zPi (if_neg (fun y => bi_0.mp h56 ((yUn_zUl k hk u hu).mp y))).symm
    · refine zIconst d_X12_taken_17 (v := -1) ic_m1 (q := 18) rfl ?_
      refine zIret d_X12_taken_18 rfl rfl rfl ?_
      have c := bi_0.mp h14
      rw [if_pos (by grind)]
      exact zPi rfl
end S49

