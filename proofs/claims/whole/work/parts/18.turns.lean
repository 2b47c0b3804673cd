theorem d_X4_fewestBehind_0 : decode (zmc m_X4_fewestBehind) 0 = .ok (.iload_n 2, 1) := by decide +kernel
theorem d_X4_fewestBehind_1 : decode (zmc m_X4_fewestBehind) 1 = .ok (.ifCond .gt 12, 3) := by decide +kernel
theorem d_X4_fewestBehind_4 : decode (zmc m_X4_fewestBehind) 4 = .ok (.aload_n 0, 1) := by decide +kernel
theorem d_X4_fewestBehind_5 : decode (zmc m_X4_fewestBehind) 5 = .ok (.iload_n 1, 1) := by decide +kernel
theorem d_X4_fewestBehind_6 : decode (zmc m_X4_fewestBehind) 6 = .ok (.invokevirtual 67, 3) := by decide +kernel
theorem d_X4_fewestBehind_9 : decode (zmc m_X4_fewestBehind) 9 = .ok (.invokestatic 33, 3) := by decide +kernel
theorem d_X4_fewestBehind_12 : decode (zmc m_X4_fewestBehind) 12 = .ok (.ireturn, 1) := by decide +kernel
theorem d_X4_fewestBehind_13 : decode (zmc m_X4_fewestBehind) 13 = .ok (.aload_n 0, 1) := by decide +kernel
theorem d_X4_fewestBehind_14 : decode (zmc m_X4_fewestBehind) 14 = .ok (.iload_n 1, 1) := by decide +kernel
theorem d_X4_fewestBehind_15 : decode (zmc m_X4_fewestBehind) 15 = .ok (.iload_n 2, 1) := by decide +kernel
theorem d_X4_fewestBehind_16 : decode (zmc m_X4_fewestBehind) 16 = .ok (.iconst 1, 1) := by decide +kernel
theorem d_X4_fewestBehind_17 : decode (zmc m_X4_fewestBehind) 17 = .ok (.isub, 1) := by decide +kernel
theorem d_X4_fewestBehind_18 : decode (zmc m_X4_fewestBehind) 18 = .ok (.iload_n 3, 1) := by decide +kernel
theorem d_X4_fewestBehind_19 : decode (zmc m_X4_fewestBehind) 19 = .ok (.iload 4, 2) := by decide +kernel
theorem d_X4_fewestBehind_21 : decode (zmc m_X4_fewestBehind) 21 = .ok (.invokevirtual 94, 3) := by decide +kernel
theorem d_X4_fewestBehind_24 : decode (zmc m_X4_fewestBehind) 24 = .ok (.istore 5, 2) := by decide +kernel
theorem d_X4_fewestBehind_26 : decode (zmc m_X4_fewestBehind) 26 = .ok (.iconst 0, 1) := by decide +kernel
theorem d_X4_fewestBehind_27 : decode (zmc m_X4_fewestBehind) 27 = .ok (.istore 6, 2) := by decide +kernel
theorem d_X4_fewestBehind_29 : decode (zmc m_X4_fewestBehind) 29 = .ok (.iload 6, 2) := by decide +kernel
theorem d_X4_fewestBehind_31 : decode (zmc m_X4_fewestBehind) 31 = .ok (.aload_n 0, 1) := by decide +kernel
theorem d_X4_fewestBehind_32 : decode (zmc m_X4_fewestBehind) 32 = .ok (.getfield 16, 3) := by decide +kernel
theorem d_X4_fewestBehind_35 : decode (zmc m_X4_fewestBehind) 35 = .ok (.getfield 85, 3) := by decide +kernel
theorem d_X4_fewestBehind_38 : decode (zmc m_X4_fewestBehind) 38 = .ok (.if_icmp .ge 58, 3) := by decide +kernel
theorem d_X4_fewestBehind_41 : decode (zmc m_X4_fewestBehind) 41 = .ok (.iload 5, 2) := by decide +kernel
theorem d_X4_fewestBehind_43 : decode (zmc m_X4_fewestBehind) 43 = .ok (.iload_n 3, 1) := by decide +kernel
theorem d_X4_fewestBehind_44 : decode (zmc m_X4_fewestBehind) 44 = .ok (.if_icmp .le 52, 3) := by decide +kernel
theorem d_X4_fewestBehind_47 : decode (zmc m_X4_fewestBehind) 47 = .ok (.iload_n 1, 1) := by decide +kernel
theorem d_X4_fewestBehind_48 : decode (zmc m_X4_fewestBehind) 48 = .ok (.iconst 1, 1) := by decide +kernel
theorem d_X4_fewestBehind_49 : decode (zmc m_X4_fewestBehind) 49 = .ok (.iload 6, 2) := by decide +kernel
theorem d_X4_fewestBehind_51 : decode (zmc m_X4_fewestBehind) 51 = .ok (.ishl, 1) := by decide +kernel
theorem d_X4_fewestBehind_52 : decode (zmc m_X4_fewestBehind) 52 = .ok (.iand, 1) := by decide +kernel
theorem d_X4_fewestBehind_53 : decode (zmc m_X4_fewestBehind) 53 = .ok (.ifCond .eq 37, 3) := by decide +kernel
theorem d_X4_fewestBehind_56 : decode (zmc m_X4_fewestBehind) 56 = .ok (.aload_n 0, 1) := by decide +kernel
theorem d_X4_fewestBehind_57 : decode (zmc m_X4_fewestBehind) 57 = .ok (.iload_n 1, 1) := by decide +kernel
theorem d_X4_fewestBehind_58 : decode (zmc m_X4_fewestBehind) 58 = .ok (.iconst 1, 1) := by decide +kernel
theorem d_X4_fewestBehind_59 : decode (zmc m_X4_fewestBehind) 59 = .ok (.iload 6, 2) := by decide +kernel
theorem d_X4_fewestBehind_61 : decode (zmc m_X4_fewestBehind) 61 = .ok (.ishl, 1) := by decide +kernel
theorem d_X4_fewestBehind_62 : decode (zmc m_X4_fewestBehind) 62 = .ok (.iconst (-1), 1) := by decide +kernel
theorem d_X4_fewestBehind_63 : decode (zmc m_X4_fewestBehind) 63 = .ok (.ixor, 1) := by decide +kernel
theorem d_X4_fewestBehind_64 : decode (zmc m_X4_fewestBehind) 64 = .ok (.iand, 1) := by decide +kernel
theorem d_X4_fewestBehind_65 : decode (zmc m_X4_fewestBehind) 65 = .ok (.iload_n 2, 1) := by decide +kernel
theorem d_X4_fewestBehind_66 : decode (zmc m_X4_fewestBehind) 66 = .ok (.iconst 1, 1) := by decide +kernel
theorem d_X4_fewestBehind_67 : decode (zmc m_X4_fewestBehind) 67 = .ok (.isub, 1) := by decide +kernel
theorem d_X4_fewestBehind_68 : decode (zmc m_X4_fewestBehind) 68 = .ok (.iload_n 3, 1) := by decide +kernel
theorem d_X4_fewestBehind_69 : decode (zmc m_X4_fewestBehind) 69 = .ok (.iload 4, 2) := by decide +kernel
theorem d_X4_fewestBehind_71 : decode (zmc m_X4_fewestBehind) 71 = .ok (.iload 5, 2) := by decide +kernel
theorem d_X4_fewestBehind_73 : decode (zmc m_X4_fewestBehind) 73 = .ok (.invokestatic 97, 3) := by decide +kernel
theorem d_X4_fewestBehind_76 : decode (zmc m_X4_fewestBehind) 76 = .ok (.invokevirtual 94, 3) := by decide +kernel
theorem d_X4_fewestBehind_79 : decode (zmc m_X4_fewestBehind) 79 = .ok (.istore 7, 2) := by decide +kernel
theorem d_X4_fewestBehind_81 : decode (zmc m_X4_fewestBehind) 81 = .ok (.iload 5, 2) := by decide +kernel
theorem d_X4_fewestBehind_83 : decode (zmc m_X4_fewestBehind) 83 = .ok (.iload 7, 2) := by decide +kernel
theorem d_X4_fewestBehind_85 : decode (zmc m_X4_fewestBehind) 85 = .ok (.invokestatic 97, 3) := by decide +kernel
theorem d_X4_fewestBehind_88 : decode (zmc m_X4_fewestBehind) 88 = .ok (.istore 5, 2) := by decide +kernel
theorem d_X4_fewestBehind_90 : decode (zmc m_X4_fewestBehind) 90 = .ok (.iinc 6 1, 3) := by decide +kernel
theorem d_X4_fewestBehind_93 : decode (zmc m_X4_fewestBehind) 93 = .ok (.goto (-64), 3) := by decide +kernel
theorem d_X4_fewestBehind_96 : decode (zmc m_X4_fewestBehind) 96 = .ok (.iload 5, 2) := by decide +kernel
theorem d_X4_fewestBehind_98 : decode (zmc m_X4_fewestBehind) 98 = .ok (.ireturn, 1) := by decide +kernel
theorem d_X4_mostBehind_0 : decode (zmc m_X4_mostBehind) 0 = .ok (.iload_n 2, 1) := by decide +kernel
theorem d_X4_mostBehind_1 : decode (zmc m_X4_mostBehind) 1 = .ok (.ifCond .gt 12, 3) := by decide +kernel
theorem d_X4_mostBehind_4 : decode (zmc m_X4_mostBehind) 4 = .ok (.aload_n 0, 1) := by decide +kernel
theorem d_X4_mostBehind_5 : decode (zmc m_X4_mostBehind) 5 = .ok (.iload_n 1, 1) := by decide +kernel
theorem d_X4_mostBehind_6 : decode (zmc m_X4_mostBehind) 6 = .ok (.invokevirtual 67, 3) := by decide +kernel
theorem d_X4_mostBehind_9 : decode (zmc m_X4_mostBehind) 9 = .ok (.invokestatic 33, 3) := by decide +kernel
theorem d_X4_mostBehind_12 : decode (zmc m_X4_mostBehind) 12 = .ok (.ireturn, 1) := by decide +kernel
theorem d_X4_mostBehind_13 : decode (zmc m_X4_mostBehind) 13 = .ok (.aload_n 0, 1) := by decide +kernel
theorem d_X4_mostBehind_14 : decode (zmc m_X4_mostBehind) 14 = .ok (.iload_n 1, 1) := by decide +kernel
theorem d_X4_mostBehind_15 : decode (zmc m_X4_mostBehind) 15 = .ok (.iload_n 2, 1) := by decide +kernel
theorem d_X4_mostBehind_16 : decode (zmc m_X4_mostBehind) 16 = .ok (.iconst 1, 1) := by decide +kernel
theorem d_X4_mostBehind_17 : decode (zmc m_X4_mostBehind) 17 = .ok (.isub, 1) := by decide +kernel
theorem d_X4_mostBehind_18 : decode (zmc m_X4_mostBehind) 18 = .ok (.iload_n 3, 1) := by decide +kernel
theorem d_X4_mostBehind_19 : decode (zmc m_X4_mostBehind) 19 = .ok (.iload 4, 2) := by decide +kernel
theorem d_X4_mostBehind_21 : decode (zmc m_X4_mostBehind) 21 = .ok (.invokevirtual 78, 3) := by decide +kernel
theorem d_X4_mostBehind_24 : decode (zmc m_X4_mostBehind) 24 = .ok (.istore 5, 2) := by decide +kernel
theorem d_X4_mostBehind_26 : decode (zmc m_X4_mostBehind) 26 = .ok (.iconst 0, 1) := by decide +kernel
theorem d_X4_mostBehind_27 : decode (zmc m_X4_mostBehind) 27 = .ok (.istore 6, 2) := by decide +kernel
theorem d_X4_mostBehind_29 : decode (zmc m_X4_mostBehind) 29 = .ok (.iload 6, 2) := by decide +kernel
theorem d_X4_mostBehind_31 : decode (zmc m_X4_mostBehind) 31 = .ok (.aload_n 0, 1) := by decide +kernel
theorem d_X4_mostBehind_32 : decode (zmc m_X4_mostBehind) 32 = .ok (.getfield 16, 3) := by decide +kernel
theorem d_X4_mostBehind_35 : decode (zmc m_X4_mostBehind) 35 = .ok (.getfield 85, 3) := by decide +kernel
theorem d_X4_mostBehind_38 : decode (zmc m_X4_mostBehind) 38 = .ok (.if_icmp .ge 64, 3) := by decide +kernel
theorem d_X4_mostBehind_41 : decode (zmc m_X4_mostBehind) 41 = .ok (.iload 5, 2) := by decide +kernel
theorem d_X4_mostBehind_43 : decode (zmc m_X4_mostBehind) 43 = .ok (.iload 4, 2) := by decide +kernel
theorem d_X4_mostBehind_45 : decode (zmc m_X4_mostBehind) 45 = .ok (.if_icmp .ge 57, 3) := by decide +kernel
theorem d_X4_mostBehind_48 : decode (zmc m_X4_mostBehind) 48 = .ok (.aload_n 0, 1) := by decide +kernel
theorem d_X4_mostBehind_49 : decode (zmc m_X4_mostBehind) 49 = .ok (.getfield 73, 3) := by decide +kernel
theorem d_X4_mostBehind_52 : decode (zmc m_X4_mostBehind) 52 = .ok (.iload_n 1, 1) := by decide +kernel
theorem d_X4_mostBehind_53 : decode (zmc m_X4_mostBehind) 53 = .ok (.iconst (-1), 1) := by decide +kernel
theorem d_X4_mostBehind_54 : decode (zmc m_X4_mostBehind) 54 = .ok (.ixor, 1) := by decide +kernel
theorem d_X4_mostBehind_55 : decode (zmc m_X4_mostBehind) 55 = .ok (.iand, 1) := by decide +kernel
theorem d_X4_mostBehind_56 : decode (zmc m_X4_mostBehind) 56 = .ok (.iconst 1, 1) := by decide +kernel
theorem d_X4_mostBehind_57 : decode (zmc m_X4_mostBehind) 57 = .ok (.iload 6, 2) := by decide +kernel
theorem d_X4_mostBehind_59 : decode (zmc m_X4_mostBehind) 59 = .ok (.ishl, 1) := by decide +kernel
theorem d_X4_mostBehind_60 : decode (zmc m_X4_mostBehind) 60 = .ok (.iand, 1) := by decide +kernel
theorem d_X4_mostBehind_61 : decode (zmc m_X4_mostBehind) 61 = .ok (.ifCond .eq 35, 3) := by decide +kernel
theorem d_X4_mostBehind_64 : decode (zmc m_X4_mostBehind) 64 = .ok (.aload_n 0, 1) := by decide +kernel
theorem d_X4_mostBehind_65 : decode (zmc m_X4_mostBehind) 65 = .ok (.iload_n 1, 1) := by decide +kernel
theorem d_X4_mostBehind_66 : decode (zmc m_X4_mostBehind) 66 = .ok (.iconst 1, 1) := by decide +kernel
theorem d_X4_mostBehind_67 : decode (zmc m_X4_mostBehind) 67 = .ok (.iload 6, 2) := by decide +kernel
theorem d_X4_mostBehind_69 : decode (zmc m_X4_mostBehind) 69 = .ok (.ishl, 1) := by decide +kernel
theorem d_X4_mostBehind_70 : decode (zmc m_X4_mostBehind) 70 = .ok (.ior, 1) := by decide +kernel
theorem d_X4_mostBehind_71 : decode (zmc m_X4_mostBehind) 71 = .ok (.iload_n 2, 1) := by decide +kernel
theorem d_X4_mostBehind_72 : decode (zmc m_X4_mostBehind) 72 = .ok (.iconst 1, 1) := by decide +kernel
theorem d_X4_mostBehind_73 : decode (zmc m_X4_mostBehind) 73 = .ok (.isub, 1) := by decide +kernel
theorem d_X4_mostBehind_74 : decode (zmc m_X4_mostBehind) 74 = .ok (.iload_n 3, 1) := by decide +kernel
theorem d_X4_mostBehind_75 : decode (zmc m_X4_mostBehind) 75 = .ok (.iload 5, 2) := by decide +kernel
theorem d_X4_mostBehind_77 : decode (zmc m_X4_mostBehind) 77 = .ok (.invokestatic 88, 3) := by decide +kernel
theorem d_X4_mostBehind_80 : decode (zmc m_X4_mostBehind) 80 = .ok (.iload 4, 2) := by decide +kernel
theorem d_X4_mostBehind_82 : decode (zmc m_X4_mostBehind) 82 = .ok (.invokevirtual 78, 3) := by decide +kernel
theorem d_X4_mostBehind_85 : decode (zmc m_X4_mostBehind) 85 = .ok (.istore 7, 2) := by decide +kernel
theorem d_X4_mostBehind_87 : decode (zmc m_X4_mostBehind) 87 = .ok (.iload 5, 2) := by decide +kernel
theorem d_X4_mostBehind_89 : decode (zmc m_X4_mostBehind) 89 = .ok (.iload 7, 2) := by decide +kernel
theorem d_X4_mostBehind_91 : decode (zmc m_X4_mostBehind) 91 = .ok (.invokestatic 88, 3) := by decide +kernel
theorem d_X4_mostBehind_94 : decode (zmc m_X4_mostBehind) 94 = .ok (.istore 5, 2) := by decide +kernel
theorem d_X4_mostBehind_96 : decode (zmc m_X4_mostBehind) 96 = .ok (.iinc 6 1, 3) := by decide +kernel
theorem d_X4_mostBehind_99 : decode (zmc m_X4_mostBehind) 99 = .ok (.goto (-70), 3) := by decide +kernel
theorem d_X4_mostBehind_102 : decode (zmc m_X4_mostBehind) 102 = .ok (.iload 5, 2) := by decide +kernel
theorem d_X4_mostBehind_104 : decode (zmc m_X4_mostBehind) 104 = .ok (.ireturn, 1) := by decide +kernel
/-! BY TURNS -/
def zmx (x y : Int32) : Int32 := if x < y then y else x
def zmn2 (x y : Int32) : Int32 := if y < x then y else x
def zB1 (k : Nat) : Int32 := (1 : Int32) <<< (nI k &&& 31)
/-- behind n turns more, the thrower's next (w true) or the map's -/
def zVal (I : Nat → Nat → Int32) (ns nh : Nat) (ah : Int32) : Nat → Bool → Int32 → Int32
  | 0, _, up => zbc (zSteer I nh up)
  | n + 1, true, up => zfor (fun k s => if (ah &&& (up ^^^ (-1))) &&& zB1 k = 0 then s else zmx s (zVal I ns nh ah n false (up ||| zB1 k))) ns 0 (zVal I ns nh ah n false up)
  | n + 1, false, up => zfor (fun k s => if up &&& zB1 k = 0 then s else zmn2 s (zVal I ns nh ah n true (up &&& (zB1 k ^^^ (-1))))) ns 0 (zVal I ns nh ah n true up)
/-- r tells v as far as it matters between lo and hi -/
def zAB (v r lo hi : Int32) : Prop := (v ≤ lo ∧ r ≤ lo) ∨ (hi ≤ v ∧ hi ≤ r) ∨ r = v
theorem zAB_mx {v b v' r lo hi : Int32} (h : lo < hi) (hb : b < hi) (h1 : zAB v b lo hi) (h2 : zAB v' r (zmx lo b) hi) : zAB (zmx v v') (zmx b r) lo hi := by
  unfold zAB zmx at *
  grind
theorem zAB_mn {v b v' r lo hi : Int32} (h : lo < hi) (hb : lo < b) (h1 : zAB v b lo hi) (h2 : zAB v' r lo (zmn2 hi b)) : zAB (zmn2 v v') (zmn2 b r) lo hi := by
  unfold zAB zmn2 at *
  grind
theorem zfor_ge {f : Nat → Int32 → Int32} (hf : ∀ k s, s ≤ f k s) (n : Nat) : ∀ k, k ≤ n → ∀ s, s ≤ zfor f n k s := by
  refine zloop n (fun k hk ih s => ?_)
  rcases Nat.eq_or_lt_of_le hk with e | hlt
  · rw [zfor_end (by omega)]; exact Int32.le_refl _
  · rw [zfor_step hlt]
    exact Int32.le_trans (hf k s) (ih hlt _)
theorem zfor_le {f : Nat → Int32 → Int32} (hf : ∀ k s, f k s ≤ s) (n : Nat) : ∀ k, k ≤ n → ∀ s, zfor f n k s ≤ s := by
  refine zloop n (fun k hk ih s => ?_)
  rcases Nat.eq_or_lt_of_le hk with e | hlt
  · rw [zfor_end (by omega)]; exact Int32.le_refl _
  · rw [zfor_step hlt]
    exact Int32.le_trans (ih hlt _) (hf k s)
theorem zmx_ge (x y : Int32) : x ≤ zmx x y := by unfold zmx; split <;> grind
theorem zmn_le (x y : Int32) : zmn2 x y ≤ x := by unfold zmn2; split <;> grind
section S18
variable {g : zG} {l : Launch} {I : Nat → Nat → Int32} {L : Nat → Nat → Int64} {fs : Nat × Nat × Option Nat} {ns nt nh : Nat}
theorem sp_X4_most (hK : zSky I ns nt nh) {ah : Int32} (hah : I 16 6 = ah) : ∀ (n : Nat), n ≤ 4 → ∀ (d : Nat) (up lo hi : Int32), 2 * n + 2 ≤ d → lo < hi →
    zSp g l d 100 m_X4_mostBehind [.ref 16, .int up, .int (nI n), .int lo, .int hi] (zU I L fs) (zX (fun x w => zAB (zVal I ns nh ah n true up) x lo hi ∧ w = zU I L fs)) ∧
    zSp g l d 100 m_X4_fewestBehind [.ref 16, .int up, .int (nI n), .int lo, .int hi] (zU I L fs) (zX (fun x w => zAB (zVal I ns nh ah n false up) x lo hi ∧ w = zU I L fs)) := by
  have hns := hK.2.1
  intro n
  induction n with
  | zero =>
    intro hn d up lo hi hd hlo
    constructor
    ·
      refine zSp_of (lv := [(0, .ref 16), (1, .int up), (2, .int (nI 0)), (3, .int lo), (4, .int hi)]) k_X4_mostBehind rfl (Nat.le_of_ble_eq_true rfl) ?_
      refine zIloadN d_X4_mostBehind_0 rfl rfl (q := 1) rfl ?_
      refine zIf_gt d_X4_mostBehind_1 (tgt := 13) (q := 4) (by decide) rfl (fun h => absurd h (by decide)) (fun h1 => ?_)
      refine zAloadN d_X4_mostBehind_4 rfl rfl (q := 5) rfl ?_
      refine zIloadN d_X4_mostBehind_5 rfl rfl (q := 6) rfl ?_
      refine zCallVP d_X4_mostBehind_6 ml_X4_67 k_X4_steering ki_X4_steering ks_X4_steering (sp_X4_steering (d := d - 1) (by omega) hK) rfl rfl sh_16 (by decide) rfl (by decide) (Nat.le_of_ble_eq_true rfl) (by decide) (by omega) zns100 (q := 9) rfl ?_
      refine zCallSP d_X4_mostBehind_9 ml_X4_33 k_J6_bitCount kt_J6_bitCount (sp_J6_bitCount (d := d - 1) (by omega) ) rfl rfl (Nat.le_of_ble_eq_true rfl) (by decide) (by omega) zns100 (q := 12) rfl ?_
      refine zIret d_X4_mostBehind_12 rfl rfl rfl ?_
      exact ⟨_, rfl, Or.inr (Or.inr rfl), rfl⟩
    ·
      refine zSp_of (lv := [(0, .ref 16), (1, .int up), (2, .int (nI 0)), (3, .int lo), (4, .int hi)]) k_X4_fewestBehind rfl (Nat.le_of_ble_eq_true rfl) ?_
      refine zIloadN d_X4_fewestBehind_0 rfl rfl (q := 1) rfl ?_
      refine zIf_gt d_X4_fewestBehind_1 (tgt := 13) (q := 4) (by decide) rfl (fun h => absurd h (by decide)) (fun h1 => ?_)
      refine zAloadN d_X4_fewestBehind_4 rfl rfl (q := 5) rfl ?_
      refine zIloadN d_X4_fewestBehind_5 rfl rfl (q := 6) rfl ?_
      refine zCallVP d_X4_fewestBehind_6 ml_X4_67 k_X4_steering ki_X4_steering ks_X4_steering (sp_X4_steering (d := d - 1) (by omega) hK) rfl rfl sh_16 (by decide) rfl (by decide) (Nat.le_of_ble_eq_true rfl) (by decide) (by omega) zns100 (q := 9) rfl ?_
      refine zCallSP d_X4_fewestBehind_9 ml_X4_33 k_J6_bitCount kt_J6_bitCount (sp_J6_bitCount (d := d - 1) (by omega) ) rfl rfl (Nat.le_of_ble_eq_true rfl) (by decide) (by omega) zns100 (q := 12) rfl ?_
      refine zIret d_X4_fewestBehind_12 rfl rfl rfl ?_
      exact ⟨_, rfl, Or.inr (Or.inr rfl), rfl⟩
  | succ n ih =>
    intro hn d up lo hi hd hlo
    have hp : 0 < nI (n + 1) := (nI_ltI (a := 0) (by omega) (by omega)).mpr (by omega)
    constructor
    · have loop : ∀ k, k ≤ ns → ∀ b acc, zAB acc b lo hi → zfor (fun k s => if (ah &&& (up ^^^ (-1))) &&& zB1 k = 0 then s else zmx s (zVal I ns nh ah n false (up ||| zB1 k))) ns k acc = zVal I ns nh ah (n + 1) true up → zA g l d m_X4_mostBehind I L fs 29 [(6, .int (nI k)), (5, .int b), (0, .ref 16), (1, .int up), (2, .int (nI (n + 1))), (3, .int lo), (4, .int hi)] (zX (fun x w => zAB (zVal I ns nh ah (n + 1) true up) x lo hi ∧ w = zU I L fs)) := by
        refine zloop ns (fun k hk ih2 b acc hab hx => ?_)
        have hge := zfor_ge (f := fun k s => if (ah &&& (up ^^^ (-1))) &&& zB1 k = 0 then s else zmx s (zVal I ns nh ah n false (up ||| zB1 k))) (fun k s => by split; exact Int32.le_refl _; exact zmx_ge _ _) ns k hk acc
        rw [hx] at hge
        refine zIload d_X4_mostBehind_29 rfl (q := 31) rfl ?_
        refine zAloadN d_X4_mostBehind_31 rfl rfl (q := 32) rfl ?_
        refine zGetR d_X4_mostBehind_32 ff_X4_16 sh_16 (by decide) r_16_0 (q := 35) rfl ?_
        refine zGetI d_X4_mostBehind_35 ff_X4_85 sh_1 (by decide) (q := 38) rfl ?_
        refine zIcmp_ge d_X4_mostBehind_38 (tgt := 102) (q := 41) (by decide) rfl (fun h38 => ?_) (fun h38 => ?_)
        · have e := nle (hK.1.1 ▸ h38)
          rw [zfor_end e] at hx
          have hfin : zAB (zVal I ns nh ah (n + 1) true up) b lo hi := hx ▸ hab
          refine zIload d_X4_mostBehind_102 rfl (q := 104) rfl ?_
          refine zIret d_X4_mostBehind_104 rfl rfl rfl ?_
          exact ⟨_, rfl, hfin, rfl⟩
        · have hlt := nnle (hK.1.1 ▸ h38)
          rw [zfor_step hlt] at hx
          refine zIload d_X4_mostBehind_41 rfl (q := 43) rfl ?_
          refine zIload d_X4_mostBehind_43 rfl (q := 45) rfl ?_
          refine zIcmp_ge d_X4_mostBehind_45 (tgt := 102) (q := 48) (by decide) rfl (fun h45 => ?_) (fun h45 => ?_)
          · have hfin : zAB (zVal I ns nh ah (n + 1) true up) b lo hi := by unfold zAB at *; grind
            refine zIload d_X4_mostBehind_102 rfl (q := 104) rfl ?_
            refine zIret d_X4_mostBehind_104 rfl rfl rfl ?_
            exact ⟨_, rfl, hfin, rfl⟩
          · have hbh : b < hi := Int32.not_le.mp h45
            refine zAloadN d_X4_mostBehind_48 rfl rfl (q := 49) rfl ?_
            refine zGetI d_X4_mostBehind_49 ff_X4_73 sh_16 (by decide) (q := 52) rfl ?_
            rw [hah]
            refine zIloadN d_X4_mostBehind_52 rfl rfl (q := 53) rfl ?_
            refine zIconst d_X4_mostBehind_53 (v := -1) ic_m1 (q := 54) rfl ?_
            refine zIxor d_X4_mostBehind_54 (q := 55) rfl ?_
            refine zIand d_X4_mostBehind_55 (q := 56) rfl ?_
            refine zIconst d_X4_mostBehind_56 (v := 1) ic_1 (q := 57) rfl ?_
            refine zIload d_X4_mostBehind_57 rfl (q := 59) rfl ?_
            refine zIshl d_X4_mostBehind_59 (q := 60) rfl ?_
            refine zIand d_X4_mostBehind_60 (q := 61) rfl ?_
            refine zIf_eq d_X4_mostBehind_61 (tgt := 96) (q := 64) (by decide) rfl (fun h61 => ?_) (fun h61 => ?_)
            · refine zIinc d_X4_mostBehind_96 rfl (zinc _) (by decide) rfl (q := 99) rfl ?_
              refine zGoto d_X4_mostBehind_99 (q := 29) (by decide) ?_
              refine zSub [0, 1, 2, 3, 4, 5, 6] rfl ?_
              first
              | exact ih2 hlt b acc hab (by rw [← hx]; congr 1; exact (if_pos h61).symm)
              | exact ih2 hlt (zmx b r) (zmx acc (zVal I ns nh ah n false (up ||| zB1 k))) (zAB_mx hlo hbh hab hr) (by rw [← hx]; congr 1; exact (if_neg h61).symm)
            · refine zAloadN d_X4_mostBehind_64 rfl rfl (q := 65) rfl ?_
              refine zIloadN d_X4_mostBehind_65 rfl rfl (q := 66) rfl ?_
              refine zIconst d_X4_mostBehind_66 (v := 1) ic_1 (q := 67) rfl ?_
              refine zIload d_X4_mostBehind_67 rfl (q := 69) rfl ?_
              refine zIshl d_X4_mostBehind_69 (q := 70) rfl ?_
              refine zIor d_X4_mostBehind_70 (q := 71) rfl ?_
              refine zIloadN d_X4_mostBehind_71 rfl rfl (q := 72) rfl ?_
              refine zIconst d_X4_mostBehind_72 (v := 1) ic_1 (q := 73) rfl ?_
              refine zIsub d_X4_mostBehind_73 (q := 74) rfl ?_
              rw [nI_pred]
              refine zIloadN d_X4_mostBehind_74 rfl rfl (q := 75) rfl ?_
              refine zIload d_X4_mostBehind_75 rfl (q := 77) rfl ?_
              refine zMax d_X4_mostBehind_77 ml_X4_88 (by omega) (Nat.le_of_ble_eq_true rfl) ⟨Nat.le_refl _, Nat.le_refl _⟩ (q := 80) rfl ?_
              refine zIload d_X4_mostBehind_80 rfl (q := 82) rfl ?_
              refine zCallVX d_X4_mostBehind_82 ml_X4_78 k_X4_fewestBehind ki_X4_fewestBehind ks_X4_fewestBehind ((ih (by omega) (d - 1) (up ||| zB1 k) (zmx lo b) hi (by omega) (by unfold zmx; split <;> assumption)).2) rfl rfl sh_16 (by decide) rfl (by decide) (Nat.le_of_ble_eq_true rfl) (by decide) (by omega) zns100 (q := 85) rfl (fun r w' hw' => ?_)
              obtain ⟨hr, rfl⟩ := hw'
              refine zIstore d_X4_mostBehind_85 (by decide) rfl (q := 87) rfl ?_
              refine zIload d_X4_mostBehind_87 rfl (q := 89) rfl ?_
              refine zIload d_X4_mostBehind_89 rfl (q := 91) rfl ?_
              refine zMax d_X4_mostBehind_91 ml_X4_88 (by omega) (Nat.le_of_ble_eq_true rfl) ⟨Nat.le_refl _, Nat.le_refl _⟩ (q := 94) rfl ?_
              refine zIstore d_X4_mostBehind_94 (by decide) rfl (q := 96) rfl ?_
              refine zIinc d_X4_mostBehind_96 rfl (zinc _) (by decide) rfl (q := 99) rfl ?_
              refine zGoto d_X4_mostBehind_99 (q := 29) (by decide) ?_
              refine zSub [0, 1, 3, 4, 5, 6, 7] rfl ?_
              first
              | exact ih2 hlt b acc hab (by rw [← hx]; congr 1; exact (if_pos h61).symm)
              | exact ih2 hlt (zmx b r) (zmx acc (zVal I ns nh ah n false (up ||| zB1 k))) (zAB_mx hlo hbh hab hr) (by rw [← hx]; congr 1; exact (if_neg h61).symm)
      refine zSp_of (lv := [(0, .ref 16), (1, .int up), (2, .int (nI (n + 1))), (3, .int lo), (4, .int hi)]) k_X4_mostBehind rfl (Nat.le_of_ble_eq_true rfl) ?_
      refine zIloadN d_X4_mostBehind_0 rfl rfl (q := 1) rfl ?_
      refine zIf_gt d_X4_mostBehind_1 (tgt := 13) (q := 4) (by decide) rfl (fun h1 => ?_) (fun h => absurd hp h)
      refine zAloadN d_X4_mostBehind_13 rfl rfl (q := 14) rfl ?_
      refine zIloadN d_X4_mostBehind_14 rfl rfl (q := 15) rfl ?_
      refine zIloadN d_X4_mostBehind_15 rfl rfl (q := 16) rfl ?_
      refine zIconst d_X4_mostBehind_16 (v := 1) ic_1 (q := 17) rfl ?_
      refine zIsub d_X4_mostBehind_17 (q := 18) rfl ?_
      rw [nI_pred]
      refine zIloadN d_X4_mostBehind_18 rfl rfl (q := 19) rfl ?_
      refine zIload d_X4_mostBehind_19 rfl (q := 21) rfl ?_
      refine zCallVX d_X4_mostBehind_21 ml_X4_78 k_X4_fewestBehind ki_X4_fewestBehind ks_X4_fewestBehind ((ih (by omega) (d - 1) up lo hi (by omega) hlo).2) rfl rfl sh_16 (by decide) rfl (by decide) (Nat.le_of_ble_eq_true rfl) (by decide) (by omega) zns100 (q := 24) rfl (fun r w' hw' => ?_)
      obtain ⟨hr, rfl⟩ := hw'
      refine zIstore d_X4_mostBehind_24 (by decide) rfl (q := 26) rfl ?_
      refine zIconst d_X4_mostBehind_26 (v := 0) ic_0 (q := 27) rfl ?_
      refine zIstore d_X4_mostBehind_27 (by decide) rfl (q := 29) rfl ?_
      refine zSub [0, 1, 2, 3, 4, 5, 6] rfl ?_
      exact loop 0 (Nat.zero_le _) r _ hr rfl
    · have loop : ∀ k, k ≤ ns → ∀ b acc, zAB acc b lo hi → zfor (fun k s => if up &&& zB1 k = 0 then s else zmn2 s (zVal I ns nh ah n true (up &&& (zB1 k ^^^ (-1))))) ns k acc = zVal I ns nh ah (n + 1) false up → zA g l d m_X4_fewestBehind I L fs 29 [(6, .int (nI k)), (5, .int b), (0, .ref 16), (1, .int up), (2, .int (nI (n + 1))), (3, .int lo), (4, .int hi)] (zX (fun x w => zAB (zVal I ns nh ah (n + 1) false up) x lo hi ∧ w = zU I L fs)) := by
        refine zloop ns (fun k hk ih2 b acc hab hx => ?_)
        have hge := zfor_le (f := fun k s => if up &&& zB1 k = 0 then s else zmn2 s (zVal I ns nh ah n true (up &&& (zB1 k ^^^ (-1))))) (fun k s => by split; exact Int32.le_refl _; exact zmn_le _ _) ns k hk acc
        rw [hx] at hge
        refine zIload d_X4_fewestBehind_29 rfl (q := 31) rfl ?_
        refine zAloadN d_X4_fewestBehind_31 rfl rfl (q := 32) rfl ?_
        refine zGetR d_X4_fewestBehind_32 ff_X4_16 sh_16 (by decide) r_16_0 (q := 35) rfl ?_
        refine zGetI d_X4_fewestBehind_35 ff_X4_85 sh_1 (by decide) (q := 38) rfl ?_
        refine zIcmp_ge d_X4_fewestBehind_38 (tgt := 96) (q := 41) (by decide) rfl (fun h38 => ?_) (fun h38 => ?_)
        · have e := nle (hK.1.1 ▸ h38)
          rw [zfor_end e] at hx
          have hfin : zAB (zVal I ns nh ah (n + 1) false up) b lo hi := hx ▸ hab
          refine zIload d_X4_fewestBehind_96 rfl (q := 98) rfl ?_
          refine zIret d_X4_fewestBehind_98 rfl rfl rfl ?_
          exact ⟨_, rfl, hfin, rfl⟩
        · have hlt := nnle (hK.1.1 ▸ h38)
          rw [zfor_step hlt] at hx
          refine zIload d_X4_fewestBehind_41 rfl (q := 43) rfl ?_
          refine zIloadN d_X4_fewestBehind_43 rfl rfl (q := 44) rfl ?_
          refine zIcmp_le d_X4_fewestBehind_44 (tgt := 96) (q := 47) (by decide) rfl (fun h44 => ?_) (fun h44 => ?_)
          · have hfin : zAB (zVal I ns nh ah (n + 1) false up) b lo hi := by unfold zAB at *; grind
            refine zIload d_X4_fewestBehind_96 rfl (q := 98) rfl ?_
            refine zIret d_X4_fewestBehind_98 rfl rfl rfl ?_
            exact ⟨_, rfl, hfin, rfl⟩
          · have hbh : lo < b := Int32.not_le.mp h44
            refine zIloadN d_X4_fewestBehind_47 rfl rfl (q := 48) rfl ?_
            refine zIconst d_X4_fewestBehind_48 (v := 1) ic_1 (q := 49) rfl ?_
            refine zIload d_X4_fewestBehind_49 rfl (q := 51) rfl ?_
            refine zIshl d_X4_fewestBehind_51 (q := 52) rfl ?_
            refine zIand d_X4_fewestBehind_52 (q := 53) rfl ?_
            refine zIf_eq d_X4_fewestBehind_53 (tgt := 90) (q := 56) (by decide) rfl (fun h53 => ?_) (fun h53 => ?_)
            · refine zIinc d_X4_fewestBehind_90 rfl (zinc _) (by decide) rfl (q := 93) rfl ?_
              refine zGoto d_X4_fewestBehind_93 (q := 29) (by decide) ?_
              refine zSub [0, 1, 2, 3, 4, 5, 6] rfl ?_
              first
              | exact ih2 hlt b acc hab (by rw [← hx]; congr 1; exact (if_pos h53).symm)
              | exact ih2 hlt (zmn2 b r) (zmn2 acc (zVal I ns nh ah n true (up &&& (zB1 k ^^^ (-1))))) (zAB_mn hlo hbh hab hr) (by rw [← hx]; congr 1; exact (if_neg h53).symm)
            · refine zAloadN d_X4_fewestBehind_56 rfl rfl (q := 57) rfl ?_
              refine zIloadN d_X4_fewestBehind_57 rfl rfl (q := 58) rfl ?_
              refine zIconst d_X4_fewestBehind_58 (v := 1) ic_1 (q := 59) rfl ?_
              refine zIload d_X4_fewestBehind_59 rfl (q := 61) rfl ?_
              refine zIshl d_X4_fewestBehind_61 (q := 62) rfl ?_
              refine zIconst d_X4_fewestBehind_62 (v := -1) ic_m1 (q := 63) rfl ?_
              refine zIxor d_X4_fewestBehind_63 (q := 64) rfl ?_
              refine zIand d_X4_fewestBehind_64 (q := 65) rfl ?_
              refine zIloadN d_X4_fewestBehind_65 rfl rfl (q := 66) rfl ?_
              refine zIconst d_X4_fewestBehind_66 (v := 1) ic_1 (q := 67) rfl ?_
              refine zIsub d_X4_fewestBehind_67 (q := 68) rfl ?_
              rw [nI_pred]
              refine zIloadN d_X4_fewestBehind_68 rfl rfl (q := 69) rfl ?_
              refine zIload d_X4_fewestBehind_69 rfl (q := 71) rfl ?_
              refine zIload d_X4_fewestBehind_71 rfl (q := 73) rfl ?_
              refine zMin d_X4_fewestBehind_73 ml_X4_97 (by omega) (Nat.le_of_ble_eq_true rfl) ⟨Nat.le_refl _, Nat.le_refl _⟩ (q := 76) rfl ?_
              refine zCallVX d_X4_fewestBehind_76 ml_X4_94 k_X4_mostBehind ki_X4_mostBehind ks_X4_mostBehind ((ih (by omega) (d - 1) (up &&& (zB1 k ^^^ (-1))) lo (zmn2 hi b) (by omega) (by unfold zmn2; split <;> assumption)).1) rfl rfl sh_16 (by decide) rfl (by decide) (Nat.le_of_ble_eq_true rfl) (by decide) (by omega) zns100 (q := 79) rfl (fun r w' hw' => ?_)
              obtain ⟨hr, rfl⟩ := hw'
              refine zIstore d_X4_fewestBehind_79 (by decide) rfl (q := 81) rfl ?_
              refine zIload d_X4_fewestBehind_81 rfl (q := 83) rfl ?_
              refine zIload d_X4_fewestBehind_83 rfl (q := 85) rfl ?_
              refine zMin d_X4_fewestBehind_85 ml_X4_97 (by omega) (Nat.le_of_ble_eq_true rfl) ⟨Nat.le_refl _, Nat.le_refl _⟩ (q := 88) rfl ?_
              refine zIstore d_X4_fewestBehind_88 (by decide) rfl (q := 90) rfl ?_
              refine zIinc d_X4_fewestBehind_90 rfl (zinc _) (by decide) rfl (q := 93) rfl ?_
              refine zGoto d_X4_fewestBehind_93 (q := 29) (by decide) ?_
              refine zSub [0, 1, 3, 4, 5, 6, 7] rfl ?_
              first
              | exact ih2 hlt b acc hab (by rw [← hx]; congr 1; exact (if_pos h53).symm)
              | exact ih2 hlt (zmn2 b r) (zmn2 acc (zVal I ns nh ah n true (up &&& (zB1 k ^^^ (-1))))) (zAB_mn hlo hbh hab hr) (by rw [← hx]; congr 1; exact (if_neg h53).symm)
      refine zSp_of (lv := [(0, .ref 16), (1, .int up), (2, .int (nI (n + 1))), (3, .int lo), (4, .int hi)]) k_X4_fewestBehind rfl (Nat.le_of_ble_eq_true rfl) ?_
      refine zIloadN d_X4_fewestBehind_0 rfl rfl (q := 1) rfl ?_
      refine zIf_gt d_X4_fewestBehind_1 (tgt := 13) (q := 4) (by decide) rfl (fun h1 => ?_) (fun h => absurd hp h)
      refine zAloadN d_X4_fewestBehind_13 rfl rfl (q := 14) rfl ?_
      refine zIloadN d_X4_fewestBehind_14 rfl rfl (q := 15) rfl ?_
      refine zIloadN d_X4_fewestBehind_15 rfl rfl (q := 16) rfl ?_
      refine zIconst d_X4_fewestBehind_16 (v := 1) ic_1 (q := 17) rfl ?_
      refine zIsub d_X4_fewestBehind_17 (q := 18) rfl ?_
      rw [nI_pred]
      refine zIloadN d_X4_fewestBehind_18 rfl rfl (q := 19) rfl ?_
      refine zIload d_X4_fewestBehind_19 rfl (q := 21) rfl ?_
      refine zCallVX d_X4_fewestBehind_21 ml_X4_94 k_X4_mostBehind ki_X4_mostBehind ks_X4_mostBehind ((ih (by omega) (d - 1) up lo hi (by omega) hlo).1) rfl rfl sh_16 (by decide) rfl (by decide) (Nat.le_of_ble_eq_true rfl) (by decide) (by omega) zns100 (q := 24) rfl (fun r w' hw' => ?_)
      obtain ⟨hr, rfl⟩ := hw'
      refine zIstore d_X4_fewestBehind_24 (by decide) rfl (q := 26) rfl ?_
      refine zIconst d_X4_fewestBehind_26 (v := 0) ic_0 (q := 27) rfl ?_
      refine zIstore d_X4_fewestBehind_27 (by decide) rfl (q := 29) rfl ?_
      refine zSub [0, 1, 2, 3, 4, 5, 6] rfl ?_
      exact loop 0 (Nat.zero_le _) r _ hr rfl
end S18

