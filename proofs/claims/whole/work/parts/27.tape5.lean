theorem d_X10_readLine_0 : decode (zmc m_X10_readLine) 0 = .ok (.aload_n 0, 1) := by decide +kernel
theorem d_X10_readLine_1 : decode (zmc m_X10_readLine) 1 = .ok (.iconst 0, 1) := by decide +kernel
theorem d_X10_readLine_2 : decode (zmc m_X10_readLine) 2 = .ok (.iconst 0, 1) := by decide +kernel
theorem d_X10_readLine_3 : decode (zmc m_X10_readLine) 3 = .ok (.invokevirtual 39, 3) := by decide +kernel
theorem d_X10_readLine_6 : decode (zmc m_X10_readLine) 6 = .ok (.ifCond .ne 5, 3) := by decide +kernel
theorem d_X10_readLine_9 : decode (zmc m_X10_readLine) 9 = .ok (.iconst 0, 1) := by decide +kernel
theorem d_X10_readLine_10 : decode (zmc m_X10_readLine) 10 = .ok (.ireturn, 1) := by decide +kernel
theorem d_X10_readLine_11 : decode (zmc m_X10_readLine) 11 = .ok (.iconst (-1), 1) := by decide +kernel
theorem d_X10_readLine_12 : decode (zmc m_X10_readLine) 12 = .ok (.istore_n 1, 1) := by decide +kernel
theorem d_X10_readLine_13 : decode (zmc m_X10_readLine) 13 = .ok (.aload_n 0, 1) := by decide +kernel
theorem d_X10_readLine_14 : decode (zmc m_X10_readLine) 14 = .ok (.invokevirtual 35, 3) := by decide +kernel
theorem d_X10_readLine_17 : decode (zmc m_X10_readLine) 17 = .ok (.bipush 63, 2) := by decide +kernel
theorem d_X10_readLine_19 : decode (zmc m_X10_readLine) 19 = .ok (.if_icmp .ne 41, 3) := by decide +kernel
theorem d_X10_readLine_22 : decode (zmc m_X10_readLine) 22 = .ok (.aload_n 0, 1) := by decide +kernel
theorem d_X10_readLine_23 : decode (zmc m_X10_readLine) 23 = .ok (.dup, 1) := by decide +kernel
theorem d_X10_readLine_24 : decode (zmc m_X10_readLine) 24 = .ok (.getfield 28, 3) := by decide +kernel
theorem d_X10_readLine_27 : decode (zmc m_X10_readLine) 27 = .ok (.iconst 1, 1) := by decide +kernel
theorem d_X10_readLine_28 : decode (zmc m_X10_readLine) 28 = .ok (.iadd, 1) := by decide +kernel
theorem d_X10_readLine_29 : decode (zmc m_X10_readLine) 29 = .ok (.putfield 28, 3) := by decide +kernel
theorem d_X10_readLine_32 : decode (zmc m_X10_readLine) 32 = .ok (.aload_n 0, 1) := by decide +kernel
theorem d_X10_readLine_33 : decode (zmc m_X10_readLine) 33 = .ok (.getfield 24, 3) := by decide +kernel
theorem d_X10_readLine_36 : decode (zmc m_X10_readLine) 36 = .ok (.getfield 43, 3) := by decide +kernel
theorem d_X10_readLine_39 : decode (zmc m_X10_readLine) 39 = .ok (.istore_n 1, 1) := by decide +kernel
theorem d_X10_readLine_40 : decode (zmc m_X10_readLine) 40 = .ok (.aload_n 0, 1) := by decide +kernel
theorem d_X10_readLine_41 : decode (zmc m_X10_readLine) 41 = .ok (.getfield 24, 3) := by decide +kernel
theorem d_X10_readLine_44 : decode (zmc m_X10_readLine) 44 = .ok (.iconst 2, 1) := by decide +kernel
theorem d_X10_readLine_45 : decode (zmc m_X10_readLine) 45 = .ok (.iconst 0, 1) := by decide +kernel
theorem d_X10_readLine_46 : decode (zmc m_X10_readLine) 46 = .ok (.invokevirtual 46, 3) := by decide +kernel
theorem d_X10_readLine_49 : decode (zmc m_X10_readLine) 49 = .ok (.aload_n 0, 1) := by decide +kernel
theorem d_X10_readLine_50 : decode (zmc m_X10_readLine) 50 = .ok (.iconst 0, 1) := by decide +kernel
theorem d_X10_readLine_51 : decode (zmc m_X10_readLine) 51 = .ok (.iconst 0, 1) := by decide +kernel
theorem d_X10_readLine_52 : decode (zmc m_X10_readLine) 52 = .ok (.invokevirtual 39, 3) := by decide +kernel
theorem d_X10_readLine_55 : decode (zmc m_X10_readLine) 55 = .ok (.ifCond .ne 5, 3) := by decide +kernel
theorem d_X10_readLine_58 : decode (zmc m_X10_readLine) 58 = .ok (.iconst 0, 1) := by decide +kernel
theorem d_X10_readLine_59 : decode (zmc m_X10_readLine) 59 = .ok (.ireturn, 1) := by decide +kernel
theorem d_X10_readLine_60 : decode (zmc m_X10_readLine) 60 = .ok (.aload_n 0, 1) := by decide +kernel
theorem d_X10_readLine_61 : decode (zmc m_X10_readLine) 61 = .ok (.getfield 24, 3) := by decide +kernel
theorem d_X10_readLine_64 : decode (zmc m_X10_readLine) 64 = .ok (.iconst 3, 1) := by decide +kernel
theorem d_X10_readLine_65 : decode (zmc m_X10_readLine) 65 = .ok (.iconst 0, 1) := by decide +kernel
theorem d_X10_readLine_66 : decode (zmc m_X10_readLine) 66 = .ok (.invokevirtual 46, 3) := by decide +kernel
theorem d_X10_readLine_69 : decode (zmc m_X10_readLine) 69 = .ok (.aload_n 0, 1) := by decide +kernel
theorem d_X10_readLine_70 : decode (zmc m_X10_readLine) 70 = .ok (.getfield 24, 3) := by decide +kernel
theorem d_X10_readLine_73 : decode (zmc m_X10_readLine) 73 = .ok (.iload_n 1, 1) := by decide +kernel
theorem d_X10_readLine_74 : decode (zmc m_X10_readLine) 74 = .ok (.invokevirtual 50, 3) := by decide +kernel
theorem d_X10_readLine_77 : decode (zmc m_X10_readLine) 77 = .ok (.iconst 1, 1) := by decide +kernel
theorem d_X10_readLine_78 : decode (zmc m_X10_readLine) 78 = .ok (.ireturn, 1) := by decide +kernel
/-! LINES -/
section S27
variable {g : zG} {l : Launch} {d : Nat} {I : Nat → Nat → Int32} {L : Nat → Nat → Int64} {a b h m : Nat}
def zLx (I : Nat → Nat → Int32) (h : Nat) (c : List zSt1) (r : Nat × Option zLine) (x : Int32) (J : Nat → Nat → Int32) : Prop :=
  (r.2 = none ∧ x = 0 ∧ ∃ c', zTp I J h r.1 c') ∨ ∃ y, r.2 = some y ∧ x = 1 ∧ zTp I J h r.1 (c ++ zCdL c.length y)
theorem zLx_0 {I J : Nat → Nat → Int32} {h : Nat} {c : List zSt1} {r : Nat × Option zLine} {x : Int32} (k : zLx I h c r x J) (e : x = 0) : r.2 = none ∧ ∃ c', zTp I J h r.1 c' := by
  rcases k with ⟨k1, k2, k3⟩ | ⟨c', k1, k2, k3⟩
  · exact ⟨k1, k3⟩
  · rw [k2] at e; exact absurd e (by decide)
theorem zLx_1 {I J : Nat → Nat → Int32} {h : Nat} {c : List zSt1} {r : Nat × Option zLine} {x : Int32} (k : zLx I h c r x J) (e : ¬ x = 0) : ∃ y, r.2 = some y ∧ zTp I J h r.1 (c ++ zCdL c.length y) := by
  rcases k with ⟨k1, k2, k3⟩ | ⟨c', k1, k2, k3⟩
  · exact absurd k2 e
  · exact ⟨c', k1, k3⟩
theorem zLx_n {I J : Nat → Nat → Int32} {h : Nat} {c c' : List zSt1} {p : Nat} {r : Nat × Option zLine} {x : Int32} (e : r = (p, none)) (hx : x = 0) (k : zTp I J h p c') : zLx I h c r x J := by
  subst e; exact Or.inl ⟨rfl, hx, c', k⟩
theorem zLx_s {I J : Nat → Nat → Int32} {h : Nat} {c : List zSt1} {y : zLine} {p : Nat} {r : Nat × Option zLine} {x : Int32} (e : r = (p, some y)) (hx : x = 1) (k : zTp I J h p (c ++ zCdL c.length y)) : zLx I h c r x J := by
  subst e; exact Or.inr ⟨y, rfl, hx, k⟩
theorem sp_expr (hd : 93 ≤ d) (h1 : I 29 1 = nI m) (hm : m ≤ 120) (hw : zLwf h) (hh : 54 ≤ h) : zPc g l d I L a b h m m_X10_readJoined [.ref 29, .int (nI 0), .int (nI 0)] (zE (I 30) m) :=
  sp_loose (D := 82) h1 hm hw hh (zOp_gd 6) (fun d hd => sp_X10_readOperand h1 hm hw hh 6 (by omega) d (by omega)) (by omega)
theorem sp_X10_readLine (hd : 94 ≤ d) (h1 : I 29 1 = nI m) (hm : m ≤ 120) (hw : zLwf h) (hh : 54 ≤ h) {J : Nat → Nat → Int32} {p : Nat} {c : List zSt1} (hJ : zTp I J h p c) (hc : c.length ≤ p) (hp : p ≤ m) :
    zSp g l d 100 m_X10_readLine [.ref 29] (zU J L (a, b, some h)) (zX (fun x w => ∃ J', w = zU J' L (a, b, some h) ∧ zLx I h c (zLn (I 30) m p) x J')) := by
  have hpm := hp
  obtain ⟨g1, g2, g3⟩ := zE_gd (T := I 30) p hp
  have tailA : ∀ J1 c1 p1, zTp I J1 h p1 (c ++ c1) → (c ++ c1).length ≤ 120 → zLn (I 30) m p = (p1, some (none, c1)) → zA g l d m_X10_readLine J1 L (a, b, some h) 60 [(1, .int (-1)), (0, .ref 29)] (zX (fun x w => ∃ J', w = zU J' L (a, b, some h) ∧ zLx I h c (zLn (I 30) m p) x J')) := by
    intro J1 c1 p1 hJ1 el e5
    refine zAloadN d_X10_readLine_60 rfl rfl (q := 61) rfl ?_
    refine zGetR d_X10_readLine_61 ff_X10_24 sh_29 (by decide) r_into (q := 64) rfl ?_
    refine zIconst d_X10_readLine_64 (v := 3) ic_3 (q := 65) rfl ?_
    refine zIconst d_X10_readLine_65 (v := 0) ic_0 (q := 66) rfl ?_
    refine zCallVV d_X10_readLine_66 ml_X10_46 k_X6_add ki_X6_add ks_X6_add (sp_X6_add (d := d - 1) (by omega) hw hJ1.2.2.2.1 (by omega)) rfl rfl hw.1 (by decide) rfl (zlt4 hw) (Nat.le_of_ble_eq_true rfl) (by decide) (by omega) zns100 (q := 69) rfl (fun w' hw' => ?_)
    subst hw'
    have q1 := zTp_add (s := 3) (v := 0) hh hJ1
    refine zAloadN d_X10_readLine_69 rfl rfl (q := 70) rfl ?_
    refine zGetR d_X10_readLine_70 ff_X10_24 sh_29 (by decide) r_into (q := 73) rfl ?_
    refine zIloadN d_X10_readLine_73 rfl rfl (q := 74) rfl ?_
    refine zCallVV d_X10_readLine_74 ml_X10_50 k_X6_leadHere ki_X6_leadHere ks_X6_leadHere (sp_X6_leadNone (d := d - 1) (by omega) hw) rfl rfl hw.1 (by decide) rfl (zlt4 hw) (Nat.le_of_ble_eq_true rfl) (by decide) (by omega) zns100 (q := 77) rfl (fun w' hw' => ?_)
    subst hw'
    refine zIconst d_X10_readLine_77 (v := 1) ic_1 (q := 78) rfl ?_
    refine zIret d_X10_readLine_78 rfl rfl rfl ?_
    exact ⟨_, rfl, _, rfl, zLx_s e5 rfl (by rw [List.append_assoc] at q1; exact q1)⟩
  have tailB : ∀ J2 c1 c2 p2, zTp I J2 h p2 (c ++ c1 ++ [(2, 0)] ++ c2) → (c ++ c1 ++ [(2, 0)] ++ c2).length ≤ 120 → zLn (I 30) m p = (p2, some (some c1, c2)) → zA g l d m_X10_readLine J2 L (a, b, some h) 60 [(1, .int (nI (c ++ c1).length)), (0, .ref 29)] (zX (fun x w => ∃ J', w = zU J' L (a, b, some h) ∧ zLx I h c (zLn (I 30) m p) x J')) := by
    intro J1 c1 c2 p1 hJ1 el e5
    have ell : (c ++ c1).length + 1 + c2.length = (c ++ c1 ++ [(2, 0)] ++ c2).length := by rw [List.length_append (as := c ++ c1 ++ [(2, 0)]), List.length_append (as := c ++ c1)]; rfl
    have es : c ++ c1 ++ [(2, 0)] ++ c2 ++ [((3 : Int32), (0 : Int32))] = (c ++ c1) ++ (2, 0) :: (c2 ++ [(3, 0)]) := by rw [List.append_assoc, List.append_assoc]; rfl
    refine zAloadN d_X10_readLine_60 rfl rfl (q := 61) rfl ?_
    refine zGetR d_X10_readLine_61 ff_X10_24 sh_29 (by decide) r_into (q := 64) rfl ?_
    refine zIconst d_X10_readLine_64 (v := 3) ic_3 (q := 65) rfl ?_
    refine zIconst d_X10_readLine_65 (v := 0) ic_0 (q := 66) rfl ?_
    refine zCallVV d_X10_readLine_66 ml_X10_46 k_X6_add ki_X6_add ks_X6_add (sp_X6_add (d := d - 1) (by omega) hw hJ1.2.2.2.1 (by omega)) rfl rfl hw.1 (by decide) rfl (zlt4 hw) (Nat.le_of_ble_eq_true rfl) (by decide) (by omega) zns100 (q := 69) rfl (fun w' hw' => ?_)
    subst hw'
    have q1 := zTp_add (s := 3) (v := 0) hh hJ1
    have q2 := q1.2.2.2.1
    rw [List.length_append (bs := [((3 : Int32), (0 : Int32))])] at q2
    refine zAloadN d_X10_readLine_69 rfl rfl (q := 70) rfl ?_
    refine zGetR d_X10_readLine_70 ff_X10_24 sh_29 (by decide) r_into (q := 73) rfl ?_
    refine zIloadN d_X10_readLine_73 rfl rfl (q := 74) rfl ?_
    refine zCallVV d_X10_readLine_74 ml_X10_50 k_X6_leadHere ki_X6_leadHere ks_X6_leadHere (sp_X6_leadHere (d := d - 1) (by omega) hw q2 (by show _ + 1 ≤ 128; omega) (p := (c ++ c1).length) (by show _ < _ + 1; omega)) rfl rfl hw.1 (by decide) rfl (zlt4 hw) (Nat.le_of_ble_eq_true rfl) (by decide) (by omega) zns100 (q := 77) rfl (fun w' hw' => ?_)
    subst hw'
    rw [es] at q1
    have q3 := zTp_set (x := nI ((c ++ c1 ++ [(2, 0)] ++ c2).length + [((3 : Int32), (0 : Int32))].length)) hh q1
    have e7 : (c ++ c1) ++ (2, nI ((c ++ c1 ++ [(2, 0)] ++ c2).length + [((3 : Int32), (0 : Int32))].length)) :: (c2 ++ [(3, 0)]) = c ++ zCdL c.length (some c1, c2) := by rw [← ell, List.length_append, List.append_assoc, show c.length + c1.length + 1 + c2.length + [((3 : Int32), (0 : Int32))].length = c.length + (c1.length + 1 + (c2.length + 1)) by (show c.length + c1.length + 1 + c2.length + 1 = _); omega]; rfl
    rw [e7] at q3
    refine zIconst d_X10_readLine_77 (v := 1) ic_1 (q := 78) rfl ?_
    refine zIret d_X10_readLine_78 rfl rfl rfl ?_
    exact ⟨_, rfl, _, rfl, zLx_s e5 rfl q3⟩
  refine zSp_of (lv := [(0, .ref 29)]) k_X10_readLine rfl (Nat.le_of_ble_eq_true rfl) ?_
  refine zAloadN d_X10_readLine_0 rfl rfl (q := 1) rfl ?_
  refine zIconst d_X10_readLine_1 (v := 0) ic_0 (q := 2) rfl ?_
  refine zIconst d_X10_readLine_2 (v := 0) ic_0 (q := 3) rfl ?_
  refine zCallVX d_X10_readLine_3 ml_X10_39 k_X10_readJoined ki_X10_readJoined ks_X10_readJoined (sp_expr (d := d - 1) (by omega) h1 hm hw hh J p c hJ hc hp) rfl rfl sh_29 (by decide) rfl (by decide) (Nat.le_of_ble_eq_true rfl) (by decide) (by omega) zns100 (q := 6) rfl (fun x w' hw' => ?_)
  obtain ⟨J1, rfl, hr⟩ := hw'
  refine zIf_ne d_X10_readLine_6 (tgt := 11) (q := 9) (by decide) rfl (fun h6 => ?_) (fun h6 => ?_)
  · obtain ⟨c1, hf, hJ1⟩ := zRx_1 hr h6
    obtain ⟨g4, g5, _⟩ := g3 c1 hf
    have el : (c ++ c1).length ≤ (zE (I 30) m p).1 := by rw [List.length_append]; omega
    refine zIconst d_X10_readLine_11 (v := -1) ic_m1 (q := 12) rfl ?_
    refine zIstoreN d_X10_readLine_12 rfl (by decide) rfl (q := 13) rfl ?_
    refine zAloadN d_X10_readLine_13 rfl rfl (q := 14) rfl ?_
    refine zCallVP d_X10_readLine_14 ml_X10_35 k_X10_here ki_X10_here ks_X10_here (sp_hereT (d := d - 1) (h := h) (by omega) h1 hm hh hJ1 g1) rfl rfl sh_29 (by decide) rfl (by decide) (Nat.le_of_ble_eq_true rfl) (by decide) (by omega) zns100 (q := 17) rfl ?_
    refine zBipush d_X10_readLine_17 (v := 63) bc_63 (q := 19) rfl ?_
    refine zIcmp_ne d_X10_readLine_19 (tgt := 60) (q := 22) (by decide) rfl (fun h19 => ?_) (fun h19 => ?_)
    · have e5 : zLn (I 30) m p = ((zE (I 30) m p).1, some (none, c1)) := by unfold zLn; rw [hf]; exact if_neg h19
      refine zSub [0, 1] rfl ?_
      first
      | exact tailB _ _ _ _ hJ2 (Nat.le_trans (by rw [List.length_append, List.length_append (as := c ++ c1)]; show (c ++ c1).length + 1 + c2.length ≤ (zE (I 30) m ((zE (I 30) m p).1 + 1)).1; omega) (Nat.le_trans k1 hm)) e5
      | exact tailA _ _ _ hJ1 (by omega) e5
    · have e63 : zAt (I 30) m (zE (I 30) m p).1 = 63 := h19
      have hlt : (zE (I 30) m p).1 < m := zAt_in (by rw [e63]; decide)
      obtain ⟨k1, k2, k3⟩ := zE_gd (T := I 30) ((zE (I 30) m p).1 + 1) hlt
      refine zAloadN d_X10_readLine_22 rfl rfl (q := 23) rfl ?_
      refine zDup d_X10_readLine_23 rfl (q := 24) rfl ?_
      refine zGetI d_X10_readLine_24 ff_X10_28 sh_29 (by decide) (q := 27) rfl ?_
      refine zIconst d_X10_readLine_27 (v := 1) ic_1 (q := 28) rfl ?_
      refine zIadd d_X10_readLine_28 (q := 29) rfl ?_
      rw [hJ1.2.2.1, nI_1]
      refine zPutI d_X10_readLine_29 ff_X10_28 rfl rfl rfl sh_29 (by decide) (q := 32) rfl ?_
      refine zAloadN d_X10_readLine_32 rfl rfl (q := 33) rfl ?_
      refine zGetR d_X10_readLine_33 ff_X10_24 sh_29 (by decide) r_into (q := 36) rfl ?_
      refine zGetI d_X10_readLine_36 ff_X10_43 hw.1 (zlt4 hw) (q := 39) rfl ?_
      rw [(zTp_go (q := (zE (I 30) m p).1 + 1) hh hJ1).2.2.2.1]
      refine zIstoreN d_X10_readLine_39 rfl (by decide) rfl (q := 40) rfl ?_
      refine zAloadN d_X10_readLine_40 rfl rfl (q := 41) rfl ?_
      refine zGetR d_X10_readLine_41 ff_X10_24 sh_29 (by decide) r_into (q := 44) rfl ?_
      refine zIconst d_X10_readLine_44 (v := 2) ic_2 (q := 45) rfl ?_
      refine zIconst d_X10_readLine_45 (v := 0) ic_0 (q := 46) rfl ?_
      refine zCallVV d_X10_readLine_46 ml_X10_46 k_X6_add ki_X6_add ks_X6_add (sp_X6_add (d := d - 1) (by omega) hw (zTp_go (q := (zE (I 30) m p).1 + 1) hh hJ1).2.2.2.1 (by omega)) rfl rfl hw.1 (by decide) rfl (zlt4 hw) (Nat.le_of_ble_eq_true rfl) (by decide) (by omega) zns100 (q := 49) rfl (fun w' hw' => ?_)
      subst hw'
      have q1 := zTp_add (s := 2) (v := 0) hh (zTp_go (q := (zE (I 30) m p).1 + 1) hh hJ1)
      refine zAloadN d_X10_readLine_49 rfl rfl (q := 50) rfl ?_
      refine zIconst d_X10_readLine_50 (v := 0) ic_0 (q := 51) rfl ?_
      refine zIconst d_X10_readLine_51 (v := 0) ic_0 (q := 52) rfl ?_
      refine zCallVX d_X10_readLine_52 ml_X10_39 k_X10_readJoined ki_X10_readJoined ks_X10_readJoined (sp_expr (d := d - 1) (by omega) h1 hm hw hh _ ((zE (I 30) m p).1 + 1) _ q1 (by rw [List.length_append]; show (c ++ c1).length + 1 ≤ _; omega) hlt) rfl rfl sh_29 (by decide) rfl (by decide) (Nat.le_of_ble_eq_true rfl) (by decide) (by omega) zns100 (q := 55) rfl (fun x w' hw' => ?_)
      obtain ⟨J2, rfl, hr2⟩ := hw'
      refine zIf_ne d_X10_readLine_55 (tgt := 60) (q := 58) (by decide) rfl (fun h55 => ?_) (fun h55 => ?_)
      · obtain ⟨c2, hf2, hJ2⟩ := zRx_1 hr2 h55
        obtain ⟨k4, k5, _⟩ := k3 c2 hf2
        have e5 : zLn (I 30) m p = ((zE (I 30) m ((zE (I 30) m p).1 + 1)).1, some (some c1, c2)) := by unfold zLn; rw [hf]; show (if _ then _ else _) = _; rw [if_pos e63, hf2]
        refine zSub [0, 1] rfl ?_
        first
        | exact tailB _ _ _ _ hJ2 (Nat.le_trans (by rw [List.length_append, List.length_append (as := c ++ c1)]; show (c ++ c1).length + 1 + c2.length ≤ (zE (I 30) m ((zE (I 30) m p).1 + 1)).1; omega) (Nat.le_trans k1 hm)) e5
        | exact tailA _ _ _ hJ1 (by omega) e5
      · obtain ⟨hf2, c', hJ2⟩ := zRx_0 hr2 (by simpa using h55)
        have e5 : zLn (I 30) m p = ((zE (I 30) m ((zE (I 30) m p).1 + 1)).1, none) := by unfold zLn; rw [hf]; show (if _ then _ else _) = _; rw [if_pos e63, hf2]
        refine zIconst d_X10_readLine_58 (v := 0) ic_0 (q := 59) rfl ?_
        refine zIret d_X10_readLine_59 rfl rfl rfl ?_
        exact ⟨_, rfl, _, rfl, zLx_n e5 rfl hJ2⟩
  · obtain ⟨hf, c', hJ1⟩ := zRx_0 hr (by simpa using h6)
    have e5 : zLn (I 30) m p = ((zE (I 30) m p).1, none) := by unfold zLn; rw [hf]
    refine zIconst d_X10_readLine_9 (v := 0) ic_0 (q := 10) rfl ?_
    refine zIret d_X10_readLine_10 rfl rfl rfl ?_
    exact ⟨_, rfl, _, rfl, zLx_n e5 rfl hJ1⟩
end S27

