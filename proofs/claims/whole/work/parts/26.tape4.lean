theorem d_X10_readOperand_0 : decode (zmc m_X10_readOperand) 0 = .ok (.aload_n 0, 1) := by decide +kernel
theorem d_X10_readOperand_1 : decode (zmc m_X10_readOperand) 1 = .ok (.invokevirtual 35, 3) := by decide +kernel
theorem d_X10_readOperand_4 : decode (zmc m_X10_readOperand) 4 = .ok (.istore_n 2, 1) := by decide +kernel
theorem d_X10_readOperand_5 : decode (zmc m_X10_readOperand) 5 = .ok (.iload_n 2, 1) := by decide +kernel
theorem d_X10_readOperand_6 : decode (zmc m_X10_readOperand) 6 = .ok (.bipush 40, 2) := by decide +kernel
theorem d_X10_readOperand_8 : decode (zmc m_X10_readOperand) 8 = .ok (.if_icmp .eq 15, 3) := by decide +kernel
theorem d_X10_readOperand_11 : decode (zmc m_X10_readOperand) 11 = .ok (.iload_n 2, 1) := by decide +kernel
theorem d_X10_readOperand_12 : decode (zmc m_X10_readOperand) 12 = .ok (.bipush 33, 2) := by decide +kernel
theorem d_X10_readOperand_14 : decode (zmc m_X10_readOperand) 14 = .ok (.if_icmp .eq 9, 3) := by decide +kernel
theorem d_X10_readOperand_17 : decode (zmc m_X10_readOperand) 17 = .ok (.iload_n 2, 1) := by decide +kernel
theorem d_X10_readOperand_18 : decode (zmc m_X10_readOperand) 18 = .ok (.bipush 45, 2) := by decide +kernel
theorem d_X10_readOperand_20 : decode (zmc m_X10_readOperand) 20 = .ok (.if_icmp .ne 46, 3) := by decide +kernel
theorem d_X10_readOperand_23 : decode (zmc m_X10_readOperand) 23 = .ok (.iload_n 1, 1) := by decide +kernel
theorem d_X10_readOperand_24 : decode (zmc m_X10_readOperand) 24 = .ok (.bipush 6, 2) := by decide +kernel
theorem d_X10_readOperand_26 : decode (zmc m_X10_readOperand) 26 = .ok (.if_icmp .lt 5, 3) := by decide +kernel
theorem d_X10_readOperand_29 : decode (zmc m_X10_readOperand) 29 = .ok (.iconst 0, 1) := by decide +kernel
theorem d_X10_readOperand_30 : decode (zmc m_X10_readOperand) 30 = .ok (.ireturn, 1) := by decide +kernel
theorem d_X10_readOperand_31 : decode (zmc m_X10_readOperand) 31 = .ok (.aload_n 0, 1) := by decide +kernel
theorem d_X10_readOperand_32 : decode (zmc m_X10_readOperand) 32 = .ok (.dup, 1) := by decide +kernel
theorem d_X10_readOperand_33 : decode (zmc m_X10_readOperand) 33 = .ok (.getfield 28, 3) := by decide +kernel
theorem d_X10_readOperand_36 : decode (zmc m_X10_readOperand) 36 = .ok (.iconst 1, 1) := by decide +kernel
theorem d_X10_readOperand_37 : decode (zmc m_X10_readOperand) 37 = .ok (.iadd, 1) := by decide +kernel
theorem d_X10_readOperand_38 : decode (zmc m_X10_readOperand) 38 = .ok (.putfield 28, 3) := by decide +kernel
theorem d_X10_readOperand_41 : decode (zmc m_X10_readOperand) 41 = .ok (.iload_n 2, 1) := by decide +kernel
theorem d_X10_readOperand_42 : decode (zmc m_X10_readOperand) 42 = .ok (.bipush 40, 2) := by decide +kernel
theorem d_X10_readOperand_44 : decode (zmc m_X10_readOperand) 44 = .ok (.if_icmp .ne 13, 3) := by decide +kernel
theorem d_X10_readOperand_47 : decode (zmc m_X10_readOperand) 47 = .ok (.aload_n 0, 1) := by decide +kernel
theorem d_X10_readOperand_48 : decode (zmc m_X10_readOperand) 48 = .ok (.iload_n 1, 1) := by decide +kernel
theorem d_X10_readOperand_49 : decode (zmc m_X10_readOperand) 49 = .ok (.iconst 1, 1) := by decide +kernel
theorem d_X10_readOperand_50 : decode (zmc m_X10_readOperand) 50 = .ok (.iadd, 1) := by decide +kernel
theorem d_X10_readOperand_51 : decode (zmc m_X10_readOperand) 51 = .ok (.invokevirtual 65, 3) := by decide +kernel
theorem d_X10_readOperand_54 : decode (zmc m_X10_readOperand) 54 = .ok (.goto 11, 3) := by decide +kernel
theorem d_X10_readOperand_57 : decode (zmc m_X10_readOperand) 57 = .ok (.aload_n 0, 1) := by decide +kernel
theorem d_X10_readOperand_58 : decode (zmc m_X10_readOperand) 58 = .ok (.iload_n 2, 1) := by decide +kernel
theorem d_X10_readOperand_59 : decode (zmc m_X10_readOperand) 59 = .ok (.iload_n 1, 1) := by decide +kernel
theorem d_X10_readOperand_60 : decode (zmc m_X10_readOperand) 60 = .ok (.iconst 1, 1) := by decide +kernel
theorem d_X10_readOperand_61 : decode (zmc m_X10_readOperand) 61 = .ok (.iadd, 1) := by decide +kernel
theorem d_X10_readOperand_62 : decode (zmc m_X10_readOperand) 62 = .ok (.invokevirtual 68, 3) := by decide +kernel
theorem d_X10_readOperand_65 : decode (zmc m_X10_readOperand) 65 = .ok (.ireturn, 1) := by decide +kernel
theorem d_X10_readOperand_66 : decode (zmc m_X10_readOperand) 66 = .ok (.iload_n 2, 1) := by decide +kernel
theorem d_X10_readOperand_67 : decode (zmc m_X10_readOperand) 67 = .ok (.invokestatic 71, 3) := by decide +kernel
theorem d_X10_readOperand_70 : decode (zmc m_X10_readOperand) 70 = .ok (.ifCond .eq 9, 3) := by decide +kernel
theorem d_X10_readOperand_73 : decode (zmc m_X10_readOperand) 73 = .ok (.aload_n 0, 1) := by decide +kernel
theorem d_X10_readOperand_74 : decode (zmc m_X10_readOperand) 74 = .ok (.invokevirtual 74, 3) := by decide +kernel
theorem d_X10_readOperand_77 : decode (zmc m_X10_readOperand) 77 = .ok (.iconst 1, 1) := by decide +kernel
theorem d_X10_readOperand_78 : decode (zmc m_X10_readOperand) 78 = .ok (.ireturn, 1) := by decide +kernel
theorem d_X10_readOperand_79 : decode (zmc m_X10_readOperand) 79 = .ok (.iload_n 2, 1) := by decide +kernel
theorem d_X10_readOperand_80 : decode (zmc m_X10_readOperand) 80 = .ok (.invokestatic 77, 3) := by decide +kernel
theorem d_X10_readOperand_83 : decode (zmc m_X10_readOperand) 83 = .ok (.istore_n 3, 1) := by decide +kernel
theorem d_X10_readOperand_84 : decode (zmc m_X10_readOperand) 84 = .ok (.iload_n 3, 1) := by decide +kernel
theorem d_X10_readOperand_85 : decode (zmc m_X10_readOperand) 85 = .ok (.ifCond .ge 5, 3) := by decide +kernel
theorem d_X10_readOperand_88 : decode (zmc m_X10_readOperand) 88 = .ok (.iconst 0, 1) := by decide +kernel
theorem d_X10_readOperand_89 : decode (zmc m_X10_readOperand) 89 = .ok (.ireturn, 1) := by decide +kernel
theorem d_X10_readOperand_90 : decode (zmc m_X10_readOperand) 90 = .ok (.aload_n 0, 1) := by decide +kernel
theorem d_X10_readOperand_91 : decode (zmc m_X10_readOperand) 91 = .ok (.getfield 24, 3) := by decide +kernel
theorem d_X10_readOperand_94 : decode (zmc m_X10_readOperand) 94 = .ok (.iconst 1, 1) := by decide +kernel
theorem d_X10_readOperand_95 : decode (zmc m_X10_readOperand) 95 = .ok (.iload_n 3, 1) := by decide +kernel
theorem d_X10_readOperand_96 : decode (zmc m_X10_readOperand) 96 = .ok (.invokevirtual 46, 3) := by decide +kernel
theorem d_X10_readOperand_99 : decode (zmc m_X10_readOperand) 99 = .ok (.aload_n 0, 1) := by decide +kernel
theorem d_X10_readOperand_100 : decode (zmc m_X10_readOperand) 100 = .ok (.dup, 1) := by decide +kernel
theorem d_X10_readOperand_101 : decode (zmc m_X10_readOperand) 101 = .ok (.getfield 28, 3) := by decide +kernel
theorem d_X10_readOperand_104 : decode (zmc m_X10_readOperand) 104 = .ok (.iconst 1, 1) := by decide +kernel
theorem d_X10_readOperand_105 : decode (zmc m_X10_readOperand) 105 = .ok (.iadd, 1) := by decide +kernel
theorem d_X10_readOperand_106 : decode (zmc m_X10_readOperand) 106 = .ok (.putfield 28, 3) := by decide +kernel
theorem d_X10_readOperand_109 : decode (zmc m_X10_readOperand) 109 = .ok (.iconst 1, 1) := by decide +kernel
theorem d_X10_readOperand_110 : decode (zmc m_X10_readOperand) 110 = .ok (.ireturn, 1) := by decide +kernel
/-! A WHOLE TEXT -/
theorem zCastR {g : zG} {l : Launch} {d n0 n1 n pc : Nat} {M : zM} {I : Nat → Nat → Int32} {L : Nat → Nat → Int64} {R R' : Nat → Nat → Option Nat} {lv : List (Nat × Value)} {st : List Value} {Q : Option Value → zW → Prop} (e : R' = R) (k : zAW g l d n0 n1 M (I, L, R', n) pc lv st Q) : zAW g l d n0 n1 M (I, L, R, n) pc lv st Q := e ▸ k
theorem zR_into {a b h : Nat} {x : Option Nat} : zR (a, b, some h) = zup (zR (a, b, x)) 29 (zup (zR (a, b, x) 29) 3 (some h)) := by
  funext i k
  by_cases e : i = 29
  · subst e
    rw [zup_eq]
    by_cases e2 : k = 3
    · subst e2; rw [zup_eq]; rfl
    · rw [zup_ne e2]
      show (if k = 3 then some h else zR0 29 k) = (if k = 3 then x else zR0 29 k)
      rw [if_neg e2, if_neg e2]
  · rw [zup_ne e]
    unfold zR
    rw [if_neg e, if_neg e]
def zE (T : Nat → Int32) (m : Nat) : Nat → zRr := zLev (zOp T m 6) T m 5
theorem zE_gd {T : Nat → Int32} {m : Nat} : zGd m (zE T m) := zLev_gd (zOp_gd 6) 5 (by omega)
def zLn (T : Nat → Int32) (m p : Nat) : Nat × Option zLine :=
  match (zE T m p).2 with
  | none => ((zE T m p).1, none)
  | some c => if zAt T m (zE T m p).1 = 63 then (match (zE T m ((zE T m p).1 + 1)).2 with | none => ((zE T m ((zE T m p).1 + 1)).1, none) | some v => ((zE T m ((zE T m p).1 + 1)).1, some (some c, v))) else ((zE T m p).1, some (none, c))
def zTx (T : Nat → Int32) (m : Nat) : Nat → Nat → List zLine → Nat × Option (List zLine)
  | 0, p, pg => (p, some pg)
  | n + 1, p, pg => match (zLn T m p).2 with
    | none => ((zLn T m p).1, none)
    | some y => if zAt T m (zLn T m p).1 = 59 then zTx T m n ((zLn T m p).1 + 1) (pg ++ [y]) else ((zLn T m p).1, some (pg ++ [y]))
theorem zCd_end : ∀ (pg : List zLine) (p : Nat) (y : zLine), zCd p (pg ++ [y]) = zCd p pg ++ zCdL (p + (zCd p pg).length) y := by
  intro pg
  induction pg with
  | nil => intro p y; exact List.append_nil _
  | cons x r ih =>
    intro p y
    show zCdL p x ++ zCd (p + (zCdL p x).length) (r ++ [y]) = (zCdL p x ++ zCd (p + (zCdL p x).length) r) ++ zCdL (p + (zCdL p x ++ zCd (p + (zCdL p x).length) r).length) y
    rw [ih, List.append_assoc, List.length_append, Nat.add_assoc]
theorem zWfS_one {c : List zSt1} (k : ∀ a b r, zWfS r (a + 1) b → zWfS (c ++ r) a b) : zWfS c 0 1 := by
  have := k 0 1 [] rfl
  rwa [List.append_nil] at this
theorem zLn_gd {T : Nat → Int32} {m p : Nat} (hp : p ≤ m) : (zLn T m p).1 ≤ m ∧ p ≤ (zLn T m p).1 ∧ ∀ y, (zLn T m p).2 = some y → p < (zLn T m p).1 ∧ zWfL y ∧ ∀ q, p + (zCdL q y).length ≤ (zLn T m p).1 + 1 := by
  obtain ⟨g1, g2, g3⟩ := zE_gd (T := T) p hp
  rcases e : (zE T m p).2 with _ | c
  · have e1 : zLn T m p = ((zE T m p).1, none) := by unfold zLn; rw [e]
    rw [e1]; exact ⟨g1, g2, fun y e => by cases e⟩
  · obtain ⟨g4, g5, g6⟩ := g3 c e
    by_cases e2 : zAt T m (zE T m p).1 = 63
    · have hlt := zAt_in (show zAt T m (zE T m p).1 ≠ -1 by rw [e2]; decide)
      obtain ⟨k1, k2, k3⟩ := zE_gd (T := T) ((zE T m p).1 + 1) hlt
      rcases e3 : (zE T m ((zE T m p).1 + 1)).2 with _ | v
      · have e1 : zLn T m p = ((zE T m ((zE T m p).1 + 1)).1, none) := by unfold zLn; rw [e]; show (if _ then _ else _) = _; rw [if_pos e2, e3]
        rw [e1]; exact ⟨k1, by show p ≤ (zE T m ((zE T m p).1 + 1)).1; omega, fun y e => by cases e⟩
      · obtain ⟨k4, k5, k6⟩ := k3 v e3
        have e1 : zLn T m p = ((zE T m ((zE T m p).1 + 1)).1, some (some c, v)) := by unfold zLn; rw [e]; show (if _ then _ else _) = _; rw [if_pos e2, e3]
        rw [e1]
        refine ⟨k1, by show p ≤ (zE T m ((zE T m p).1 + 1)).1; omega, fun y e => ?_⟩
        cases e
        refine ⟨by show p < (zE T m ((zE T m p).1 + 1)).1; omega, ⟨zWfS_one k6, fun t ht => by cases ht; exact zWfS_one g6⟩, fun q => ?_⟩
        show p + (c ++ (2, nI (q + (c.length + 1 + (v.length + 1)))) :: (v ++ [(3, 0)])).length ≤ (zE T m ((zE T m p).1 + 1)).1 + 1
        rw [List.length_append, List.length_cons, List.length_append]
        show p + (c.length + (v.length + 1 + 1)) ≤ _
        omega
    · have e1 : zLn T m p = ((zE T m p).1, some (none, c)) := by unfold zLn; rw [e]; exact if_neg e2
      rw [e1]
      refine ⟨g1, g2, fun y e => ?_⟩
      cases e
      refine ⟨g5, ⟨zWfS_one g6, fun t ht => by cases ht⟩, fun q => ?_⟩
      show p + (c ++ [(3, 0)]).length ≤ (zE T m p).1 + 1
      rw [List.length_append]
      show p + (c.length + 1) ≤ _
      omega
theorem zLy_set {S W : Nat → Int32} {c1 c2 : List zSt1} {s v x : Int32} (k : zLy S W 0 (c1 ++ (s, v) :: c2)) : zLy S (zup W c1.length x) 0 (c1 ++ (s, x) :: c2) := by
  intro i y hy
  by_cases h1 : i < c1.length
  · rw [List.getElem?_append_left h1] at hy
    have := k i y (by rw [List.getElem?_append_left h1]; exact hy)
    rw [zup_ne (by omega)]; exact this
  · by_cases h2 : i = c1.length
    · subst h2
      rw [List.getElem?_append_right (Nat.le_refl _), Nat.sub_self] at hy
      have := k c1.length (s, v) (by rw [List.getElem?_append_right (Nat.le_refl _), Nat.sub_self]; rfl)
      cases hy
      rw [Nat.zero_add] at this ⊢
      rw [zup_eq]
      exact ⟨this.1, rfl⟩
    · have h3 : c1.length ≤ i := by omega
      obtain ⟨j, hj⟩ : ∃ j, i - c1.length = j + 1 := ⟨i - c1.length - 1, by omega⟩
      have := k i y (by rw [List.getElem?_append_right h3, hj] at hy ⊢; exact hy)
      rw [zup_ne (by omega)]; exact this
theorem zTp_set {I J : Nat → Nat → Int32} {h p : Nat} {c1 c2 : List zSt1} {s v x : Int32} (hh : 54 ≤ h) (k : zTp I J h p (c1 ++ (s, v) :: c2)) : zTp I (zup J (h + 2) (zup (J (h + 2)) c1.length x)) h p (c1 ++ (s, x) :: c2) := by
  obtain ⟨k1, k2, k3, k4, k5, k6⟩ := k
  refine ⟨fun a h1 h2 h3 h4 => by rw [zup_ne h4]; exact k1 a h1 h2 h3 h4, fun i hi => by rw [zup_ne (by omega)]; exact k2 i hi, by rw [zup_ne (by omega)]; exact k3, ?_, ?_, fun i hi => by rw [zup_ne (by omega)]; exact k6 i hi⟩
  · rw [zup_ne (by omega), k4, List.length_append, List.length_append]; rfl
  · rw [zup_ne (by omega), zup_eq]; exact zLy_set k5
section S26
variable {g : zG} {l : Launch} {d : Nat} {I : Nat → Nat → Int32} {L : Nat → Nat → Int64} {a b h m : Nat}
theorem sp_opS (hd : 3 ≤ d) (h1 : I 29 1 = nI m) (hm : m ≤ 120) (hw : zLwf h) (hh : 54 ≤ h) {o : Int32} {J : Nat → Nat → Int32} {p : Nat} {c : List zSt1} (hJ : zTp I J h p c) (hc : c.length ≤ p) (hp : p ≤ m) :
    zA g l d m_X10_readOperand J L (a, b, some h) 66 [(2, .int (zAt (I 30) m p)), (0, .ref 29), (1, .int o)] (zX (fun x w => ∃ J', w = zU J' L (a, b, some h) ∧ zRx I h c (zOpS (I 30) m p) x J')) := by
  refine zIloadN d_X10_readOperand_66 rfl rfl (q := 67) rfl ?_
  refine zCallSP d_X10_readOperand_67 ml_X10_71 k_X10_isDigit kt_X10_isDigit (sp_X10_isDigit (d := d - 1) (by omega) ) rfl rfl (Nat.le_of_ble_eq_true rfl) (by decide) (by omega) zns100 (q := 70) rfl ?_
  refine zIf_eq d_X10_readOperand_70 (tgt := 79) (q := 73) (by decide) rfl (fun h70 => ?_) (fun h70 => ?_)
  · have hnd := bi_0.mp h70
    refine zIloadN d_X10_readOperand_79 rfl rfl (q := 80) rfl ?_
    refine zCallSP d_X10_readOperand_80 ml_X10_77 k_X10_nameOf kt_X10_nameOf (sp_X10_nameOf (d := d - 1) (by omega) ) rfl rfl (Nat.le_of_ble_eq_true rfl) (by decide) (by omega) zns100 (q := 83) rfl ?_
    refine zIstoreN d_X10_readOperand_83 rfl (by decide) rfl (q := 84) rfl ?_
    refine zIloadN d_X10_readOperand_84 rfl rfl (q := 85) rfl ?_
    refine zIf_ge d_X10_readOperand_85 (tgt := 90) (q := 88) (by decide) rfl (fun h85 => ?_) (fun h85 => ?_)
    · have hneg : ¬ zNm (zAt (I 30) m p) < 0 := Int32.not_lt.mpr h85
      have e5 : zOpS (I 30) m p = (p + 1, some [(1, zNm (zAt (I 30) m p))]) := by unfold zOpS; rw [if_neg hnd]; exact if_neg hneg
      have hlt : p < m := zAt_in (fun e => hneg (by rw [e]; decide))
      refine zAloadN d_X10_readOperand_90 rfl rfl (q := 91) rfl ?_
      refine zGetR d_X10_readOperand_91 ff_X10_24 sh_29 (by decide) r_into (q := 94) rfl ?_
      refine zIconst d_X10_readOperand_94 (v := 1) ic_1 (q := 95) rfl ?_
      refine zIloadN d_X10_readOperand_95 rfl rfl (q := 96) rfl ?_
      refine zCallVV d_X10_readOperand_96 ml_X10_46 k_X6_add ki_X6_add ks_X6_add (sp_X6_add (d := d - 1) (by omega) hw hJ.2.2.2.1 (by omega)) rfl rfl hw.1 (by decide) rfl (zlt4 hw) (Nat.le_of_ble_eq_true rfl) (by decide) (by omega) zns100 (q := 99) rfl (fun w' hw' => ?_)
      subst hw'
      have q := zTp_add (s := 1) (v := zNm (zAt (I 30) m p)) hh hJ
      refine zAloadN d_X10_readOperand_99 rfl rfl (q := 100) rfl ?_
      refine zDup d_X10_readOperand_100 rfl (q := 101) rfl ?_
      refine zGetI d_X10_readOperand_101 ff_X10_28 sh_29 (by decide) (q := 104) rfl ?_
      refine zIconst d_X10_readOperand_104 (v := 1) ic_1 (q := 105) rfl ?_
      refine zIadd d_X10_readOperand_105 (q := 106) rfl ?_
      rw [q.2.2.1, nI_1]
      refine zPutI d_X10_readOperand_106 ff_X10_28 rfl rfl rfl sh_29 (by decide) (q := 109) rfl ?_
      refine zIconst d_X10_readOperand_109 (v := 1) ic_1 (q := 110) rfl ?_
      refine zIret d_X10_readOperand_110 rfl rfl rfl ?_
      exact ⟨_, rfl, _, rfl, zRx_s e5 rfl (zTp_go hh q)⟩
    · have hneg : zNm (zAt (I 30) m p) < 0 := Int32.not_le.mp h85
      have e5 : zOpS (I 30) m p = (p, none) := by unfold zOpS; rw [if_neg hnd]; exact if_pos hneg
      refine zIconst d_X10_readOperand_88 (v := 0) ic_0 (q := 89) rfl ?_
      refine zIret d_X10_readOperand_89 rfl rfl rfl ?_
      exact ⟨_, rfl, _, rfl, zRx_n e5 rfl hJ⟩
  · have e5 : zOpS (I 30) m p = (p + zNd (I 30) m p, some [(0, zNv (I 30) m p (zNd (I 30) m p))]) := by unfold zOpS; exact if_pos (bi_n0.mp h70)
    refine zAloadN d_X10_readOperand_73 rfl rfl (q := 74) rfl ?_
    refine zCallVV d_X10_readOperand_74 ml_X10_74 k_X10_readNumber ki_X10_readNumber ks_X10_readNumber (sp_X10_readNumber (d := d - 1) (by omega) h1 hm hw hh hJ hc hp) rfl rfl sh_29 (by decide) rfl (by decide) (Nat.le_of_ble_eq_true rfl) (by decide) (by omega) zns100 (q := 77) rfl (fun w' hw' => ?_)
    obtain ⟨J1, rfl, hJ1⟩ := hw'
    refine zIconst d_X10_readOperand_77 (v := 1) ic_1 (q := 78) rfl ?_
    refine zIret d_X10_readOperand_78 rfl rfl rfl ?_
    exact ⟨_, rfl, _, rfl, zRx_s e5 rfl hJ1⟩
theorem sp_X10_readOperand (h1 : I 29 1 = nI m) (hm : m ≤ 120) (hw : zLwf h) (hh : 54 ≤ h) : ∀ r, r ≤ 6 → ∀ d, 13 * r + 4 ≤ d → zPc g l d I L a b h m m_X10_readOperand [.ref 29, .int (nI (6 - r))] (zOp (I 30) m r) := by
  intro r
  induction r with
  | zero =>
    intro _ d hd J p c hJ hc hp
    refine zSp_of (lv := [(0, .ref 29), (1, .int (nI 6))]) k_X10_readOperand rfl (Nat.le_of_ble_eq_true rfl) ?_
    refine zAloadN d_X10_readOperand_0 rfl rfl (q := 1) rfl ?_
    refine zCallVP d_X10_readOperand_1 ml_X10_35 k_X10_here ki_X10_here ks_X10_here (sp_hereT (d := d - 1) (h := h) (by omega) h1 hm hh hJ hp) rfl rfl sh_29 (by decide) rfl (by decide) (Nat.le_of_ble_eq_true rfl) (by decide) (by omega) zns100 (q := 4) rfl ?_
    refine zIstoreN d_X10_readOperand_4 rfl (by decide) rfl (q := 5) rfl ?_
    refine zIloadN d_X10_readOperand_5 rfl rfl (q := 6) rfl ?_
    refine zBipush d_X10_readOperand_6 (v := 40) bc_40 (q := 8) rfl ?_
    refine zIcmp_eq d_X10_readOperand_8 (tgt := 23) (q := 11) (by decide) rfl (fun h8 => ?_) (fun h8 => ?_)
    · have hb : zAt (I 30) m p = 40 ∨ zAt (I 30) m p = 33 ∨ zAt (I 30) m p = 45 := Or.inl h8
      refine zIloadN d_X10_readOperand_23 rfl rfl (q := 24) rfl ?_
      refine zBipush d_X10_readOperand_24 (v := 6) bc_6 (q := 26) rfl ?_
      refine zIcmp_lt d_X10_readOperand_26 (tgt := 31) (q := 29) (by decide) rfl (fun h => absurd h (by decide)) (fun h26 => ?_)
      refine zIconst d_X10_readOperand_29 (v := 0) ic_0 (q := 30) rfl ?_
      refine zIret d_X10_readOperand_30 rfl rfl rfl ?_
      exact ⟨_, rfl, _, rfl, zRx_n (by unfold zOp; exact if_pos hb) rfl hJ⟩
    · refine zIloadN d_X10_readOperand_11 rfl rfl (q := 12) rfl ?_
      refine zBipush d_X10_readOperand_12 (v := 33) bc_33 (q := 14) rfl ?_
      refine zIcmp_eq d_X10_readOperand_14 (tgt := 23) (q := 17) (by decide) rfl (fun h14 => ?_) (fun h14 => ?_)
      · have hb : zAt (I 30) m p = 40 ∨ zAt (I 30) m p = 33 ∨ zAt (I 30) m p = 45 := Or.inr (Or.inl h14)
        refine zIloadN d_X10_readOperand_23 rfl rfl (q := 24) rfl ?_
        refine zBipush d_X10_readOperand_24 (v := 6) bc_6 (q := 26) rfl ?_
        refine zIcmp_lt d_X10_readOperand_26 (tgt := 31) (q := 29) (by decide) rfl (fun h => absurd h (by decide)) (fun h26 => ?_)
        refine zIconst d_X10_readOperand_29 (v := 0) ic_0 (q := 30) rfl ?_
        refine zIret d_X10_readOperand_30 rfl rfl rfl ?_
        exact ⟨_, rfl, _, rfl, zRx_n (by unfold zOp; exact if_pos hb) rfl hJ⟩
      · refine zIloadN d_X10_readOperand_17 rfl rfl (q := 18) rfl ?_
        refine zBipush d_X10_readOperand_18 (v := 45) bc_45 (q := 20) rfl ?_
        refine zIcmp_ne d_X10_readOperand_20 (tgt := 66) (q := 23) (by decide) rfl (fun h20 => ?_) (fun h20 => ?_)
        · have e5 : zOp (I 30) m 0 p = zOpS (I 30) m p := by unfold zOp; exact if_neg (fun q => by rcases q with q | q | q; exact h8 q; exact h14 q; exact h20 q)
          refine zSub [0, 1, 2] rfl ?_
          rw [e5]
          exact sp_opS (d := d) (by omega) h1 hm hw hh hJ hc hp
        · have hb : zAt (I 30) m p = 40 ∨ zAt (I 30) m p = 33 ∨ zAt (I 30) m p = 45 := Or.inr (Or.inr h20)
          refine zIloadN d_X10_readOperand_23 rfl rfl (q := 24) rfl ?_
          refine zBipush d_X10_readOperand_24 (v := 6) bc_6 (q := 26) rfl ?_
          refine zIcmp_lt d_X10_readOperand_26 (tgt := 31) (q := 29) (by decide) rfl (fun h => absurd h (by decide)) (fun h26 => ?_)
          refine zIconst d_X10_readOperand_29 (v := 0) ic_0 (q := 30) rfl ?_
          refine zIret d_X10_readOperand_30 rfl rfl rfl ?_
          exact ⟨_, rfl, _, rfl, zRx_n (by unfold zOp; exact if_pos hb) rfl hJ⟩
  | succ r ih =>
    intro hr d hd J p c hJ hc hp
    have e6 : nI (6 - (r + 1)) + 1 = nI (6 - r) := by rw [nI_1]; congr 1; omega
    have hop := fun d (hd : 13 * r + 4 ≤ d) => ih (by omega) d hd
    have key1 : zAt (I 30) m p = 40 → zA g l d m_X10_readOperand J L (a, b, some h) 23 [(2, .int (zAt (I 30) m p)), (0, .ref 29), (1, .int (nI (6 - (r + 1))))] (zX (fun x w => ∃ J', w = zU J' L (a, b, some h) ∧ zRx I h c (zOp (I 30) m (r + 1) p) x J')) := by
      intro h8
      have e5 : zOp (I 30) m (r + 1) p = zOpB (zOp (I 30) m r) (I 30) m p := by (conv => lhs; unfold zOp); exact if_pos h8
      have hlt : p < m := zAt_in (by rw [h8]; decide)
      refine zIloadN d_X10_readOperand_23 rfl rfl (q := 24) rfl ?_
      refine zBipush d_X10_readOperand_24 (v := 6) bc_6 (q := 26) rfl ?_
      refine zIcmp_lt d_X10_readOperand_26 (tgt := 31) (q := 29) (by decide) rfl (fun h26 => ?_) (fun h => absurd ((nI_ltI (b := 6) (by omega) (by decide)).mpr (by omega)) h)
      refine zAloadN d_X10_readOperand_31 rfl rfl (q := 32) rfl ?_
      refine zDup d_X10_readOperand_32 rfl (q := 33) rfl ?_
      refine zGetI d_X10_readOperand_33 ff_X10_28 sh_29 (by decide) (q := 36) rfl ?_
      refine zIconst d_X10_readOperand_36 (v := 1) ic_1 (q := 37) rfl ?_
      refine zIadd d_X10_readOperand_37 (q := 38) rfl ?_
      rw [hJ.2.2.1, nI_1]
      refine zPutI d_X10_readOperand_38 ff_X10_28 rfl rfl rfl sh_29 (by decide) (q := 41) rfl ?_
      refine zIloadN d_X10_readOperand_41 rfl rfl (q := 42) rfl ?_
      refine zBipush d_X10_readOperand_42 (v := 40) bc_40 (q := 44) rfl ?_
      refine zIcmp_ne d_X10_readOperand_44 (tgt := 57) (q := 47) (by decide) rfl (fun h => absurd h (fun q => q h8)) (fun h44 => ?_)
      refine zAloadN d_X10_readOperand_47 rfl rfl (q := 48) rfl ?_
      refine zIloadN d_X10_readOperand_48 rfl rfl (q := 49) rfl ?_
      refine zIconst d_X10_readOperand_49 (v := 1) ic_1 (q := 50) rfl ?_
      refine zIadd d_X10_readOperand_50 (q := 51) rfl ?_
      rw [e6]
      refine zCallVX d_X10_readOperand_51 ml_X10_65 k_X10_readBracketed ki_X10_readBracketed ks_X10_readBracketed (sp_X10_readBracketed (d := d - 1) h1 hm hw hh (zOp_gd r) hop (by omega) (zTp_go (q := p + 1) hh hJ) (by omega) hlt) rfl rfl sh_29 (by decide) rfl (by decide) (Nat.le_of_ble_eq_true rfl) (by decide) (by omega) zns100 (q := 54) rfl (fun x w' hw' => ?_)
      obtain ⟨J1, rfl, hr⟩ := hw'
      have hnar : narrow FieldType.boolean (.int x) = .int x := by rcases zRx_b hr with rfl | rfl <;> rfl
      refine zGoto d_X10_readOperand_54 (q := 65) (by decide) ?_
      refine zIret d_X10_readOperand_65 rfl hnar rfl ?_
      exact ⟨_, rfl, _, rfl, by rw [e5]; exact hr⟩
    have key2 : ¬ zAt (I 30) m p = 40 → (zAt (I 30) m p = 33 ∨ zAt (I 30) m p = 45) → zA g l d m_X10_readOperand J L (a, b, some h) 23 [(2, .int (zAt (I 30) m p)), (0, .ref 29), (1, .int (nI (6 - (r + 1))))] (zX (fun x w => ∃ J', w = zU J' L (a, b, some h) ∧ zRx I h c (zOp (I 30) m (r + 1) p) x J')) := by
      intro h8 h33
      have e5 : zOp (I 30) m (r + 1) p = zOpT (zOp (I 30) m r) (zAt (I 30) m p) p := by (conv => lhs; unfold zOp); rw [if_neg h8]; exact if_pos h33
      have hlt : p < m := zAt_in (by rcases h33 with e | e <;> rw [e] <;> decide)
      refine zIloadN d_X10_readOperand_23 rfl rfl (q := 24) rfl ?_
      refine zBipush d_X10_readOperand_24 (v := 6) bc_6 (q := 26) rfl ?_
      refine zIcmp_lt d_X10_readOperand_26 (tgt := 31) (q := 29) (by decide) rfl (fun h26 => ?_) (fun h => absurd ((nI_ltI (b := 6) (by omega) (by decide)).mpr (by omega)) h)
      refine zAloadN d_X10_readOperand_31 rfl rfl (q := 32) rfl ?_
      refine zDup d_X10_readOperand_32 rfl (q := 33) rfl ?_
      refine zGetI d_X10_readOperand_33 ff_X10_28 sh_29 (by decide) (q := 36) rfl ?_
      refine zIconst d_X10_readOperand_36 (v := 1) ic_1 (q := 37) rfl ?_
      refine zIadd d_X10_readOperand_37 (q := 38) rfl ?_
      rw [hJ.2.2.1, nI_1]
      refine zPutI d_X10_readOperand_38 ff_X10_28 rfl rfl rfl sh_29 (by decide) (q := 41) rfl ?_
      refine zIloadN d_X10_readOperand_41 rfl rfl (q := 42) rfl ?_
      refine zBipush d_X10_readOperand_42 (v := 40) bc_40 (q := 44) rfl ?_
      refine zIcmp_ne d_X10_readOperand_44 (tgt := 57) (q := 47) (by decide) rfl (fun h44 => ?_) (fun h => absurd h h8)
      refine zAloadN d_X10_readOperand_57 rfl rfl (q := 58) rfl ?_
      refine zIloadN d_X10_readOperand_58 rfl rfl (q := 59) rfl ?_
      refine zIloadN d_X10_readOperand_59 rfl rfl (q := 60) rfl ?_
      refine zIconst d_X10_readOperand_60 (v := 1) ic_1 (q := 61) rfl ?_
      refine zIadd d_X10_readOperand_61 (q := 62) rfl ?_
      rw [e6]
      refine zCallVX d_X10_readOperand_62 ml_X10_68 k_X10_readTurned ki_X10_readTurned ks_X10_readTurned (sp_X10_readTurned (d := d - 1) h1 hm hw hh (zOp_gd r) h33 hop (by omega) (zTp_go (q := p + 1) hh hJ) (by omega) hlt) rfl rfl sh_29 (by decide) rfl (by decide) (Nat.le_of_ble_eq_true rfl) (by decide) (by omega) zns100 (q := 65) rfl (fun x w' hw' => ?_)
      obtain ⟨J1, rfl, hr⟩ := hw'
      have hnar : narrow FieldType.boolean (.int x) = .int x := by rcases zRx_b hr with rfl | rfl <;> rfl
      refine zIret d_X10_readOperand_65 rfl hnar rfl ?_
      exact ⟨_, rfl, _, rfl, by rw [e5]; exact hr⟩
    refine zSp_of (lv := [(0, .ref 29), (1, .int (nI (6 - (r + 1))))]) k_X10_readOperand rfl (Nat.le_of_ble_eq_true rfl) ?_
    refine zAloadN d_X10_readOperand_0 rfl rfl (q := 1) rfl ?_
    refine zCallVP d_X10_readOperand_1 ml_X10_35 k_X10_here ki_X10_here ks_X10_here (sp_hereT (d := d - 1) (h := h) (by omega) h1 hm hh hJ hp) rfl rfl sh_29 (by decide) rfl (by decide) (Nat.le_of_ble_eq_true rfl) (by decide) (by omega) zns100 (q := 4) rfl ?_
    refine zIstoreN d_X10_readOperand_4 rfl (by decide) rfl (q := 5) rfl ?_
    refine zIloadN d_X10_readOperand_5 rfl rfl (q := 6) rfl ?_
    refine zBipush d_X10_readOperand_6 (v := 40) bc_40 (q := 8) rfl ?_
    refine zIcmp_eq d_X10_readOperand_8 (tgt := 23) (q := 11) (by decide) rfl (fun h8 => ?_) (fun h8 => ?_)
    · have e23 := key1 h8
      refine zSub [0, 1, 2] rfl ?_
      exact e23
    · refine zIloadN d_X10_readOperand_11 rfl rfl (q := 12) rfl ?_
      refine zBipush d_X10_readOperand_12 (v := 33) bc_33 (q := 14) rfl ?_
      refine zIcmp_eq d_X10_readOperand_14 (tgt := 23) (q := 17) (by decide) rfl (fun h14 => ?_) (fun h14 => ?_)
      · have e23 := key2 h8 (Or.inl h14)
        refine zSub [0, 1, 2] rfl ?_
        exact e23
      · refine zIloadN d_X10_readOperand_17 rfl rfl (q := 18) rfl ?_
        refine zBipush d_X10_readOperand_18 (v := 45) bc_45 (q := 20) rfl ?_
        refine zIcmp_ne d_X10_readOperand_20 (tgt := 66) (q := 23) (by decide) rfl (fun h20 => ?_) (fun h20 => ?_)
        · have e4 : zOp (I 30) m (r + 1) p = zOpS (I 30) m p := by (conv => lhs; unfold zOp); rw [if_neg h8]; exact if_neg (fun q => by rcases q with q | q; exact h14 q; exact h20 q)
          refine zSub [0, 1, 2] rfl ?_
          rw [e4]
          exact sp_opS (d := d) (by omega) h1 hm hw hh hJ hc hp
        · have e23 := key2 h8 (Or.inr h20)
          refine zSub [0, 1, 2] rfl ?_
          exact e23
end S26

