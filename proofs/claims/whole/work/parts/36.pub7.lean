theorem d_X11_dealt_0 : decode (zmc m_X11_dealt) 0 = .ok (.iload_n 1, 1) := by decide +kernel
theorem d_X11_dealt_1 : decode (zmc m_X11_dealt) 1 = .ok (.iconst (-1), 1) := by decide +kernel
theorem d_X11_dealt_2 : decode (zmc m_X11_dealt) 2 = .ok (.if_icmp .ge 5, 3) := by decide +kernel
theorem d_X11_dealt_5 : decode (zmc m_X11_dealt) 5 = .ok (.iconst (-1), 1) := by decide +kernel
theorem d_X11_dealt_6 : decode (zmc m_X11_dealt) 6 = .ok (.ireturn, 1) := by decide +kernel
theorem d_X11_dealt_7 : decode (zmc m_X11_dealt) 7 = .ok (.aload_n 0, 1) := by decide +kernel
theorem d_X11_dealt_8 : decode (zmc m_X11_dealt) 8 = .ok (.getfield 10, 3) := by decide +kernel
theorem d_X11_dealt_11 : decode (zmc m_X11_dealt) 11 = .ok (.getfield 189, 3) := by decide +kernel
theorem d_X11_dealt_14 : decode (zmc m_X11_dealt) 14 = .ok (.ifCond .ne 6, 3) := by decide +kernel
theorem d_X11_dealt_17 : decode (zmc m_X11_dealt) 17 = .ok (.bipush (-2), 2) := by decide +kernel
theorem d_X11_dealt_19 : decode (zmc m_X11_dealt) 19 = .ok (.ireturn, 1) := by decide +kernel
theorem d_X11_dealt_20 : decode (zmc m_X11_dealt) 20 = .ok (.aload_n 0, 1) := by decide +kernel
theorem d_X11_dealt_21 : decode (zmc m_X11_dealt) 21 = .ok (.getfield 10, 3) := by decide +kernel
theorem d_X11_dealt_24 : decode (zmc m_X11_dealt) 24 = .ok (.invokevirtual 192, 3) := by decide +kernel
theorem d_X11_dealt_27 : decode (zmc m_X11_dealt) 27 = .ok (.invokestatic 195, 3) := by decide +kernel
theorem d_X11_dealt_30 : decode (zmc m_X11_dealt) 30 = .ok (.istore_n 2, 1) := by decide +kernel
theorem d_X11_dealt_31 : decode (zmc m_X11_dealt) 31 = .ok (.iload_n 2, 1) := by decide +kernel
theorem d_X11_dealt_32 : decode (zmc m_X11_dealt) 32 = .ok (.bipush 6, 2) := by decide +kernel
theorem d_X11_dealt_34 : decode (zmc m_X11_dealt) 34 = .ok (.if_icmp .le 6, 3) := by decide +kernel
theorem d_X11_dealt_37 : decode (zmc m_X11_dealt) 37 = .ok (.bipush (-5), 2) := by decide +kernel
theorem d_X11_dealt_39 : decode (zmc m_X11_dealt) 39 = .ok (.ireturn, 1) := by decide +kernel
theorem d_X11_dealt_40 : decode (zmc m_X11_dealt) 40 = .ok (.aload_n 0, 1) := by decide +kernel
theorem d_X11_dealt_41 : decode (zmc m_X11_dealt) 41 = .ok (.iload_n 2, 1) := by decide +kernel
theorem d_X11_dealt_42 : decode (zmc m_X11_dealt) 42 = .ok (.invokevirtual 200, 3) := by decide +kernel
theorem d_X11_dealt_45 : decode (zmc m_X11_dealt) 45 = .ok (.istore_n 3, 1) := by decide +kernel
theorem d_X11_dealt_46 : decode (zmc m_X11_dealt) 46 = .ok (.iload_n 1, 1) := by decide +kernel
theorem d_X11_dealt_47 : decode (zmc m_X11_dealt) 47 = .ok (.iconst (-1), 1) := by decide +kernel
theorem d_X11_dealt_48 : decode (zmc m_X11_dealt) 48 = .ok (.if_icmp .ne 5, 3) := by decide +kernel
theorem d_X11_dealt_51 : decode (zmc m_X11_dealt) 51 = .ok (.iload_n 3, 1) := by decide +kernel
theorem d_X11_dealt_52 : decode (zmc m_X11_dealt) 52 = .ok (.ireturn, 1) := by decide +kernel
theorem d_X11_dealt_53 : decode (zmc m_X11_dealt) 53 = .ok (.iload_n 1, 1) := by decide +kernel
theorem d_X11_dealt_54 : decode (zmc m_X11_dealt) 54 = .ok (.iload_n 2, 1) := by decide +kernel
theorem d_X11_dealt_55 : decode (zmc m_X11_dealt) 55 = .ok (.if_icmp .ge 12, 3) := by decide +kernel
theorem d_X11_dealt_58 : decode (zmc m_X11_dealt) 58 = .ok (.aload_n 0, 1) := by decide +kernel
theorem d_X11_dealt_59 : decode (zmc m_X11_dealt) 59 = .ok (.iload_n 1, 1) := by decide +kernel
theorem d_X11_dealt_60 : decode (zmc m_X11_dealt) 60 = .ok (.iload_n 3, 1) := by decide +kernel
theorem d_X11_dealt_61 : decode (zmc m_X11_dealt) 61 = .ok (.invokevirtual 203, 3) := by decide +kernel
theorem d_X11_dealt_64 : decode (zmc m_X11_dealt) 64 = .ok (.goto 5, 3) := by decide +kernel
theorem d_X11_dealt_67 : decode (zmc m_X11_dealt) 67 = .ok (.bipush (-2), 2) := by decide +kernel
theorem d_X11_dealt_69 : decode (zmc m_X11_dealt) 69 = .ok (.ireturn, 1) := by decide +kernel
theorem d_X11_minutesToDeal_0 : decode (zmc m_X11_minutesToDeal) 0 = .ok (.iload_n 1, 1) := by decide +kernel
theorem d_X11_minutesToDeal_1 : decode (zmc m_X11_minutesToDeal) 1 = .ok (.bipush 9, 2) := by decide +kernel
theorem d_X11_minutesToDeal_3 : decode (zmc m_X11_minutesToDeal) 3 = .ok (.imul, 1) := by decide +kernel
theorem d_X11_minutesToDeal_4 : decode (zmc m_X11_minutesToDeal) 4 = .ok (.istore_n 2, 1) := by decide +kernel
theorem d_X11_minutesToDeal_5 : decode (zmc m_X11_minutesToDeal) 5 = .ok (.iconst 0, 1) := by decide +kernel
theorem d_X11_minutesToDeal_6 : decode (zmc m_X11_minutesToDeal) 6 = .ok (.istore_n 3, 1) := by decide +kernel
theorem d_X11_minutesToDeal_7 : decode (zmc m_X11_minutesToDeal) 7 = .ok (.iload_n 3, 1) := by decide +kernel
theorem d_X11_minutesToDeal_8 : decode (zmc m_X11_minutesToDeal) 8 = .ok (.iload_n 2, 1) := by decide +kernel
theorem d_X11_minutesToDeal_9 : decode (zmc m_X11_minutesToDeal) 9 = .ok (.if_icmp .ge 53, 3) := by decide +kernel
theorem d_X11_minutesToDeal_12 : decode (zmc m_X11_minutesToDeal) 12 = .ok (.iconst 0, 1) := by decide +kernel
theorem d_X11_minutesToDeal_13 : decode (zmc m_X11_minutesToDeal) 13 = .ok (.istore 4, 2) := by decide +kernel
theorem d_X11_minutesToDeal_15 : decode (zmc m_X11_minutesToDeal) 15 = .ok (.iconst 0, 1) := by decide +kernel
theorem d_X11_minutesToDeal_16 : decode (zmc m_X11_minutesToDeal) 16 = .ok (.istore 5, 2) := by decide +kernel
theorem d_X11_minutesToDeal_18 : decode (zmc m_X11_minutesToDeal) 18 = .ok (.iload 5, 2) := by decide +kernel
theorem d_X11_minutesToDeal_20 : decode (zmc m_X11_minutesToDeal) 20 = .ok (.aload_n 0, 1) := by decide +kernel
theorem d_X11_minutesToDeal_21 : decode (zmc m_X11_minutesToDeal) 21 = .ok (.getfield 10, 3) := by decide +kernel
theorem d_X11_minutesToDeal_24 : decode (zmc m_X11_minutesToDeal) 24 = .ok (.getfield 189, 3) := by decide +kernel
theorem d_X11_minutesToDeal_27 : decode (zmc m_X11_minutesToDeal) 27 = .ok (.if_icmp .ge 21, 3) := by decide +kernel
theorem d_X11_minutesToDeal_30 : decode (zmc m_X11_minutesToDeal) 30 = .ok (.iload 4, 2) := by decide +kernel
theorem d_X11_minutesToDeal_32 : decode (zmc m_X11_minutesToDeal) 32 = .ok (.aload_n 0, 1) := by decide +kernel
theorem d_X11_minutesToDeal_33 : decode (zmc m_X11_minutesToDeal) 33 = .ok (.iload 5, 2) := by decide +kernel
theorem d_X11_minutesToDeal_35 : decode (zmc m_X11_minutesToDeal) 35 = .ok (.iload_n 3, 1) := by decide +kernel
theorem d_X11_minutesToDeal_36 : decode (zmc m_X11_minutesToDeal) 36 = .ok (.invokevirtual 394, 3) := by decide +kernel
theorem d_X11_minutesToDeal_39 : decode (zmc m_X11_minutesToDeal) 39 = .ok (.iadd, 1) := by decide +kernel
theorem d_X11_minutesToDeal_40 : decode (zmc m_X11_minutesToDeal) 40 = .ok (.istore 4, 2) := by decide +kernel
theorem d_X11_minutesToDeal_42 : decode (zmc m_X11_minutesToDeal) 42 = .ok (.iinc 5 1, 3) := by decide +kernel
theorem d_X11_minutesToDeal_45 : decode (zmc m_X11_minutesToDeal) 45 = .ok (.goto (-27), 3) := by decide +kernel
theorem d_X11_minutesToDeal_48 : decode (zmc m_X11_minutesToDeal) 48 = .ok (.iload 4, 2) := by decide +kernel
theorem d_X11_minutesToDeal_50 : decode (zmc m_X11_minutesToDeal) 50 = .ok (.iload_n 1, 1) := by decide +kernel
theorem d_X11_minutesToDeal_51 : decode (zmc m_X11_minutesToDeal) 51 = .ok (.if_icmp .lt 5, 3) := by decide +kernel
theorem d_X11_minutesToDeal_54 : decode (zmc m_X11_minutesToDeal) 54 = .ok (.iload_n 3, 1) := by decide +kernel
theorem d_X11_minutesToDeal_55 : decode (zmc m_X11_minutesToDeal) 55 = .ok (.ireturn, 1) := by decide +kernel
theorem d_X11_minutesToDeal_56 : decode (zmc m_X11_minutesToDeal) 56 = .ok (.iinc 3 1, 3) := by decide +kernel
theorem d_X11_minutesToDeal_59 : decode (zmc m_X11_minutesToDeal) 59 = .ok (.goto (-52), 3) := by decide +kernel
theorem d_X11_minutesToDeal_62 : decode (zmc m_X11_minutesToDeal) 62 = .ok (.iload_n 2, 1) := by decide +kernel
theorem d_X11_minutesToDeal_63 : decode (zmc m_X11_minutesToDeal) 63 = .ok (.ireturn, 1) := by decide +kernel
theorem d_X11_throwerOfDealt_0 : decode (zmc m_X11_throwerOfDealt) 0 = .ok (.iconst 0, 1) := by decide +kernel
theorem d_X11_throwerOfDealt_1 : decode (zmc m_X11_throwerOfDealt) 1 = .ok (.istore_n 3, 1) := by decide +kernel
theorem d_X11_throwerOfDealt_2 : decode (zmc m_X11_throwerOfDealt) 2 = .ok (.iconst 0, 1) := by decide +kernel
theorem d_X11_throwerOfDealt_3 : decode (zmc m_X11_throwerOfDealt) 3 = .ok (.istore 4, 2) := by decide +kernel
theorem d_X11_throwerOfDealt_5 : decode (zmc m_X11_throwerOfDealt) 5 = .ok (.iload 4, 2) := by decide +kernel
theorem d_X11_throwerOfDealt_7 : decode (zmc m_X11_throwerOfDealt) 7 = .ok (.aload_n 0, 1) := by decide +kernel
theorem d_X11_throwerOfDealt_8 : decode (zmc m_X11_throwerOfDealt) 8 = .ok (.getfield 10, 3) := by decide +kernel
theorem d_X11_throwerOfDealt_11 : decode (zmc m_X11_throwerOfDealt) 11 = .ok (.getfield 189, 3) := by decide +kernel
theorem d_X11_throwerOfDealt_14 : decode (zmc m_X11_throwerOfDealt) 14 = .ok (.if_icmp .ge 27, 3) := by decide +kernel
theorem d_X11_throwerOfDealt_17 : decode (zmc m_X11_throwerOfDealt) 17 = .ok (.iload_n 3, 1) := by decide +kernel
theorem d_X11_throwerOfDealt_18 : decode (zmc m_X11_throwerOfDealt) 18 = .ok (.aload_n 0, 1) := by decide +kernel
theorem d_X11_throwerOfDealt_19 : decode (zmc m_X11_throwerOfDealt) 19 = .ok (.iload 4, 2) := by decide +kernel
theorem d_X11_throwerOfDealt_21 : decode (zmc m_X11_throwerOfDealt) 21 = .ok (.iload_n 2, 1) := by decide +kernel
theorem d_X11_throwerOfDealt_22 : decode (zmc m_X11_throwerOfDealt) 22 = .ok (.invokevirtual 394, 3) := by decide +kernel
theorem d_X11_throwerOfDealt_25 : decode (zmc m_X11_throwerOfDealt) 25 = .ok (.iadd, 1) := by decide +kernel
theorem d_X11_throwerOfDealt_26 : decode (zmc m_X11_throwerOfDealt) 26 = .ok (.istore_n 3, 1) := by decide +kernel
theorem d_X11_throwerOfDealt_27 : decode (zmc m_X11_throwerOfDealt) 27 = .ok (.iload_n 1, 1) := by decide +kernel
theorem d_X11_throwerOfDealt_28 : decode (zmc m_X11_throwerOfDealt) 28 = .ok (.iload_n 3, 1) := by decide +kernel
theorem d_X11_throwerOfDealt_29 : decode (zmc m_X11_throwerOfDealt) 29 = .ok (.if_icmp .ge 6, 3) := by decide +kernel
theorem d_X11_throwerOfDealt_32 : decode (zmc m_X11_throwerOfDealt) 32 = .ok (.iload 4, 2) := by decide +kernel
theorem d_X11_throwerOfDealt_34 : decode (zmc m_X11_throwerOfDealt) 34 = .ok (.ireturn, 1) := by decide +kernel
theorem d_X11_throwerOfDealt_35 : decode (zmc m_X11_throwerOfDealt) 35 = .ok (.iinc 4 1, 3) := by decide +kernel
theorem d_X11_throwerOfDealt_38 : decode (zmc m_X11_throwerOfDealt) 38 = .ok (.goto (-33), 3) := by decide +kernel
theorem d_X11_throwerOfDealt_41 : decode (zmc m_X11_throwerOfDealt) 41 = .ok (.bipush (-2), 2) := by decide +kernel
theorem d_X11_throwerOfDealt_43 : decode (zmc m_X11_throwerOfDealt) 43 = .ok (.ireturn, 1) := by decide +kernel
theorem d_X11_throwsWithin_0 : decode (zmc m_X11_throwsWithin) 0 = .ok (.aload_n 0, 1) := by decide +kernel
theorem d_X11_throwsWithin_1 : decode (zmc m_X11_throwsWithin) 1 = .ok (.getfield 10, 3) := by decide +kernel
theorem d_X11_throwsWithin_4 : decode (zmc m_X11_throwsWithin) 4 = .ok (.bipush 7, 2) := by decide +kernel
theorem d_X11_throwsWithin_6 : decode (zmc m_X11_throwsWithin) 6 = .ok (.iload_n 1, 1) := by decide +kernel
theorem d_X11_throwsWithin_7 : decode (zmc m_X11_throwsWithin) 7 = .ok (.invokevirtual 128, 3) := by decide +kernel
theorem d_X11_throwsWithin_10 : decode (zmc m_X11_throwsWithin) 10 = .ok (.istore_n 3, 1) := by decide +kernel
theorem d_X11_throwsWithin_11 : decode (zmc m_X11_throwsWithin) 11 = .ok (.iload_n 3, 1) := by decide +kernel
theorem d_X11_throwsWithin_12 : decode (zmc m_X11_throwsWithin) 12 = .ok (.ifCond .le 9, 3) := by decide +kernel
theorem d_X11_throwsWithin_15 : decode (zmc m_X11_throwsWithin) 15 = .ok (.iload_n 2, 1) := by decide +kernel
theorem d_X11_throwsWithin_16 : decode (zmc m_X11_throwsWithin) 16 = .ok (.iload_n 3, 1) := by decide +kernel
theorem d_X11_throwsWithin_17 : decode (zmc m_X11_throwsWithin) 17 = .ok (.idiv, 1) := by decide +kernel
theorem d_X11_throwsWithin_18 : decode (zmc m_X11_throwsWithin) 18 = .ok (.goto 4, 3) := by decide +kernel
theorem d_X11_throwsWithin_21 : decode (zmc m_X11_throwsWithin) 21 = .ok (.iconst 0, 1) := by decide +kernel
theorem d_X11_throwsWithin_22 : decode (zmc m_X11_throwsWithin) 22 = .ok (.ireturn, 1) := by decide +kernel
/-! WHAT A WATCH ANSWERS, DEALING AND SHIFTING -/
theorem zand63 (f : Int32) : 0 ≤ f &&& 63 := by
  rw [Int32.le_iff_toInt_le]
  have h : (f &&& 63).toBitVec.toNat ≤ 63 := by
    rw [Int32.toBitVec_and, BitVec.toNat_and]
    exact Nat.and_le_right
  have h2 : (f &&& 63).toInt = ((f &&& 63).toBitVec.toNat : Int) := BitVec.toInt_eq_toNat_of_lt (by omega)
  rw [h2]
  exact Int.natCast_nonneg _
theorem zbc_nn (x : Int32) : 0 ≤ zbc x := by unfold zbc; exact zand63 _
def zWi (I : Nat → Nat → Int32) (t : Nat) (m : Int32) : Int32 := if 0 < I 10 t then m / I 10 t else 0
def zPre (I : Nat → Nat → Int32) (m : Int32) : Nat → Int32
  | 0 => 0
  | k + 1 => zPre I m k + zWi I k m
def zMinB (I : Nat → Nat → Int32) (nt n m : Nat) : Bool := decide (zPre I (nI m) nt < nI n)
def zMnD (I : Nat → Nat → Int32) (nt n : Nat) : Nat := zrun (zMinB I nt n) (n * 9) 0
def zDtB (I : Nat → Nat → Int32) (i m : Int32) (t : Nat) : Bool := decide (zPre I m (t + 1) ≤ i)
def zDt (I : Nat → Nat → Int32) (nt : Nat) (i m : Int32) : Int32 := if zrun (zDtB I i m) nt 0 < nt then nI (zrun (zDtB I i m) nt 0) else -2
section S36
variable {g : zG} {l : Launch} {d : Nat} {I : Nat → Nat → Int32} {L : Nat → Nat → Int64} {fs : Nat × Nat × Option Nat} {ns nt nh h h2 : Nat} {o : Option Nat}
theorem sp_X11_throwsWithin (hd : 4 ≤ d) (hK : zSky I ns nt nh) {t : Nat} (ht : t < nt) {m : Int32} : zPure g l d m_X11_throwsWithin [.ref 0, .int (nI t), .int m] I L fs (.int (zWi I t m)) := by
  refine zSp_of (lv := [(0, .ref 0), (1, .int (nI t)), (2, .int m)]) k_X11_throwsWithin rfl (Nat.le_of_ble_eq_true rfl) ?_
  refine zAloadN d_X11_throwsWithin_0 rfl rfl (q := 1) rfl ?_
  refine zGetR d_X11_throwsWithin_1 ff_X11_10 sh_0 (by decide) r_0_0 (q := 4) rfl ?_
  refine zBipush d_X11_throwsWithin_4 (v := 7) bc_7 (q := 6) rfl ?_
  refine zIloadN d_X11_throwsWithin_6 rfl rfl (q := 7) rfl ?_
  refine zCallVP d_X11_throwsWithin_7 ml_X11_128 k_X9_get ki_X9_get ks_X9_get (sp_get7 (d := d - 1) (by omega) hK ht) rfl rfl sh_1 (by decide) rfl (by decide) (Nat.le_of_ble_eq_true rfl) (by decide) (by omega) zns100 (q := 10) rfl ?_
  refine zIstoreN d_X11_throwsWithin_10 rfl (by decide) rfl (q := 11) rfl ?_
  refine zIloadN d_X11_throwsWithin_11 rfl rfl (q := 12) rfl ?_
  refine zIf_le d_X11_throwsWithin_12 (tgt := 21) (q := 15) (by decide) rfl (fun h12 => ?_) (fun h12 => ?_)
  · have hp : ¬ 0 < I 10 t := Int32.not_lt.mpr h12
    refine zIconst d_X11_throwsWithin_21 (v := 0) ic_0 (q := 22) rfl ?_
    refine zIret d_X11_throwsWithin_22 rfl rfl rfl ?_
    exact zPi (by unfold zWi; first | exact (if_pos hp).symm | exact (if_neg hp).symm)
  · have hp : 0 < I 10 t := Int32.not_le.mp h12
    refine zIloadN d_X11_throwsWithin_15 rfl rfl (q := 16) rfl ?_
    refine zIloadN d_X11_throwsWithin_16 rfl rfl (q := 17) rfl ?_
    refine zIdiv d_X11_throwsWithin_17 (fun e => by rw [e] at hp; exact absurd hp (by decide)) (q := 18) rfl ?_
    refine zGoto d_X11_throwsWithin_18 (q := 22) (by decide) ?_
    refine zIret d_X11_throwsWithin_22 rfl rfl rfl ?_
    exact zPi (by unfold zWi; first | exact (if_pos hp).symm | exact (if_neg hp).symm)
theorem sp_X11_minutesToDeal (hd : 5 ≤ d) (hK : zSky I ns nt nh) {n : Nat} (hn : n ≤ 6) : zPure g l d m_X11_minutesToDeal [.ref 0, .int (nI n)] I L fs (.int (nI (zMnD I nt n))) := by
  have hnt := hK.2.2.1
  have e9 : nI n * 9 = nI (n * 9) := nI_mul2 (a := n) (b := 9)
  have loop : ∀ m, m ≤ n * 9 → zrun (zMinB I nt n) (n * 9) m = zMnD I nt n → zA g l d m_X11_minutesToDeal I L fs 7 [(3, .int (nI m)), (2, .int (nI (n * 9))), (0, .ref 0), (1, .int (nI n))] (zP (.int (nI (zMnD I nt n))) (zU I L fs)) := by
    refine zloop (n * 9) (fun m hm ih hx => ?_)
    have inner : m < n * 9 → ∀ t, t ≤ nt → zA g l d m_X11_minutesToDeal I L fs 18 [(5, .int (nI t)), (4, .int (zPre I (nI m) t)), (3, .int (nI m)), (2, .int (nI (n * 9))), (0, .ref 0), (1, .int (nI n))] (zP (.int (nI (zMnD I nt n))) (zU I L fs)) := by
      intro hlt
      refine zloop nt (fun t ht ih2 => ?_)
      refine zIload d_X11_minutesToDeal_18 rfl (q := 20) rfl ?_
      refine zAloadN d_X11_minutesToDeal_20 rfl rfl (q := 21) rfl ?_
      refine zGetR d_X11_minutesToDeal_21 ff_X11_10 sh_0 (by decide) r_0_0 (q := 24) rfl ?_
      refine zGetI d_X11_minutesToDeal_24 ff_X11_189 sh_1 (by decide) (q := 27) rfl ?_
      refine zIcmp_ge d_X11_minutesToDeal_27 (tgt := 48) (q := 30) (by decide) rfl (fun h27 => ?_) (fun h27 => ?_)
      · have e := nle (hK.1.2.1 ▸ h27)
        have et : t = nt := by omega
        subst et
        refine zIload d_X11_minutesToDeal_48 rfl (q := 50) rfl ?_
        refine zIloadN d_X11_minutesToDeal_50 rfl rfl (q := 51) rfl ?_
        refine zIcmp_lt d_X11_minutesToDeal_51 (tgt := 56) (q := 54) (by decide) rfl (fun h51 => ?_) (fun h51 => ?_)
        · have hb : zMinB I t n m = true := by unfold zMinB; exact decide_eq_true h51
          rw [zrun_t hlt hb] at hx
          refine zIinc d_X11_minutesToDeal_56 rfl (zinc _) (by decide) rfl (q := 59) rfl ?_
          refine zGoto d_X11_minutesToDeal_59 (q := 7) (by decide) ?_
          refine zSub [0, 3, 4, 5] rfl ?_
          exact ih hlt hx
        · have hb : ¬ zMinB I t n m = true := by unfold zMinB; rw [decide_eq_true_eq]; exact h51
          rw [zrun_f hb] at hx
          refine zIloadN d_X11_minutesToDeal_54 rfl rfl (q := 55) rfl ?_
          refine zIret d_X11_minutesToDeal_55 rfl rfl rfl ?_
          exact zPi (by rw [hx])
      · have ht2 := nnle (hK.1.2.1 ▸ h27)
        refine zIload d_X11_minutesToDeal_30 rfl (q := 32) rfl ?_
        refine zAloadN d_X11_minutesToDeal_32 rfl rfl (q := 33) rfl ?_
        refine zIload d_X11_minutesToDeal_33 rfl (q := 35) rfl ?_
        refine zIloadN d_X11_minutesToDeal_35 rfl rfl (q := 36) rfl ?_
        refine zCallVP d_X11_minutesToDeal_36 ml_X11_394 k_X11_throwsWithin ki_X11_throwsWithin ks_X11_throwsWithin (sp_X11_throwsWithin (d := d - 1) (by omega) hK ht2) rfl rfl sh_0 (by decide) rfl (by decide) (Nat.le_of_ble_eq_true rfl) (by decide) (by omega) zns100 (q := 39) rfl ?_
        refine zIadd d_X11_minutesToDeal_39 (q := 40) rfl ?_
        refine zIstore d_X11_minutesToDeal_40 (by decide) rfl (q := 42) rfl ?_
        refine zIinc d_X11_minutesToDeal_42 rfl (zinc _) (by decide) rfl (q := 45) rfl ?_
        refine zGoto d_X11_minutesToDeal_45 (q := 18) (by decide) ?_
        refine zSub [0, 1, 2, 3, 4, 5] rfl ?_
        exact ih2 ht2
    refine zIloadN d_X11_minutesToDeal_7 rfl rfl (q := 8) rfl ?_
    refine zIloadN d_X11_minutesToDeal_8 rfl rfl (q := 9) rfl ?_
    refine zIcmp_ge d_X11_minutesToDeal_9 (tgt := 62) (q := 12) (by decide) rfl (fun h9 => ?_) (fun h9 => ?_)
    · have e := nle h9
      rw [zrun_end e] at hx
      have em : m = n * 9 := by omega
      refine zIloadN d_X11_minutesToDeal_62 rfl rfl (q := 63) rfl ?_
      refine zIret d_X11_minutesToDeal_63 rfl rfl rfl ?_
      exact zPi (by rw [← hx, em])
    · have hlt := nnle h9
      refine zIconst d_X11_minutesToDeal_12 (v := 0) ic_0 (q := 13) rfl ?_
      refine zIstore d_X11_minutesToDeal_13 (by decide) rfl (q := 15) rfl ?_
      refine zIconst d_X11_minutesToDeal_15 (v := 0) ic_0 (q := 16) rfl ?_
      refine zIstore d_X11_minutesToDeal_16 (by decide) rfl (q := 18) rfl ?_
      refine zSub [0, 1, 2, 3, 4, 5] rfl ?_
      exact inner hlt 0 (Nat.zero_le _)
  refine zSp_of (lv := [(0, .ref 0), (1, .int (nI n))]) k_X11_minutesToDeal rfl (Nat.le_of_ble_eq_true rfl) ?_
  refine zIloadN d_X11_minutesToDeal_0 rfl rfl (q := 1) rfl ?_
  refine zBipush d_X11_minutesToDeal_1 (v := 9) bc_9 (q := 3) rfl ?_
  refine zImul d_X11_minutesToDeal_3 (q := 4) rfl ?_
  rw [e9]
  refine zIstoreN d_X11_minutesToDeal_4 rfl (by decide) rfl (q := 5) rfl ?_
  refine zIconst d_X11_minutesToDeal_5 (v := 0) ic_0 (q := 6) rfl ?_
  refine zIstoreN d_X11_minutesToDeal_6 rfl (by decide) rfl (q := 7) rfl ?_
  refine zSub [0, 1, 2, 3] rfl ?_
  exact loop 0 (Nat.zero_le _) rfl
theorem sp_X11_throwerOfDealt (hd : 5 ≤ d) (hK : zSky I ns nt nh) {i m : Int32} : zPure g l d m_X11_throwerOfDealt [.ref 0, .int i, .int m] I L fs (.int (zDt I nt i m)) := by
  have hnt := hK.2.2.1
  have loop : ∀ t, t ≤ nt → zrun (zDtB I i m) nt t = zrun (zDtB I i m) nt 0 → zA g l d m_X11_throwerOfDealt I L fs 5 [(4, .int (nI t)), (3, .int (zPre I m t)), (0, .ref 0), (1, .int i), (2, .int m)] (zP (.int (zDt I nt i m)) (zU I L fs)) := by
    refine zloop nt (fun t ht ih hx => ?_)
    refine zIload d_X11_throwerOfDealt_5 rfl (q := 7) rfl ?_
    refine zAloadN d_X11_throwerOfDealt_7 rfl rfl (q := 8) rfl ?_
    refine zGetR d_X11_throwerOfDealt_8 ff_X11_10 sh_0 (by decide) r_0_0 (q := 11) rfl ?_
    refine zGetI d_X11_throwerOfDealt_11 ff_X11_189 sh_1 (by decide) (q := 14) rfl ?_
    refine zIcmp_ge d_X11_throwerOfDealt_14 (tgt := 41) (q := 17) (by decide) rfl (fun h14 => ?_) (fun h14 => ?_)
    · have e := nle (hK.1.2.1 ▸ h14)
      rw [zrun_end e] at hx
      refine zBipush d_X11_throwerOfDealt_41 (v := -2) bc_m2 (q := 43) rfl ?_
      refine zIret d_X11_throwerOfDealt_43 rfl rfl rfl ?_
      exact zPi (by unfold zDt; rw [← hx, if_neg (by omega)])
    · have ht2 := nnle (hK.1.2.1 ▸ h14)
      refine zIloadN d_X11_throwerOfDealt_17 rfl rfl (q := 18) rfl ?_
      refine zAloadN d_X11_throwerOfDealt_18 rfl rfl (q := 19) rfl ?_
      refine zIload d_X11_throwerOfDealt_19 rfl (q := 21) rfl ?_
      refine zIloadN d_X11_throwerOfDealt_21 rfl rfl (q := 22) rfl ?_
      refine zCallVP d_X11_throwerOfDealt_22 ml_X11_394 k_X11_throwsWithin ki_X11_throwsWithin ks_X11_throwsWithin (sp_X11_throwsWithin (d := d - 1) (by omega) hK ht2) rfl rfl sh_0 (by decide) rfl (by decide) (Nat.le_of_ble_eq_true rfl) (by decide) (by omega) zns100 (q := 25) rfl ?_
      refine zIadd d_X11_throwerOfDealt_25 (q := 26) rfl ?_
      refine zIstoreN d_X11_throwerOfDealt_26 rfl (by decide) rfl (q := 27) rfl ?_
      refine zIloadN d_X11_throwerOfDealt_27 rfl rfl (q := 28) rfl ?_
      refine zIloadN d_X11_throwerOfDealt_28 rfl rfl (q := 29) rfl ?_
      refine zIcmp_ge d_X11_throwerOfDealt_29 (tgt := 35) (q := 32) (by decide) rfl (fun h29 => ?_) (fun h29 => ?_)
      · have hb : zDtB I i m t = true := by unfold zDtB; exact decide_eq_true h29
        rw [zrun_t ht2 hb] at hx
        refine zIinc d_X11_throwerOfDealt_35 rfl (zinc _) (by decide) rfl (q := 38) rfl ?_
        refine zGoto d_X11_throwerOfDealt_38 (q := 5) (by decide) ?_
        refine zSub [0, 1, 2, 3, 4] rfl ?_
        exact ih ht2 hx
      · have hb : ¬ zDtB I i m t = true := by unfold zDtB; rw [decide_eq_true_eq]; exact h29
        rw [zrun_f hb] at hx
        refine zIload d_X11_throwerOfDealt_32 rfl (q := 34) rfl ?_
        refine zIret d_X11_throwerOfDealt_34 rfl rfl rfl ?_
        exact zPi (by unfold zDt; rw [← hx, if_pos ht2])
  refine zSp_of (lv := [(0, .ref 0), (1, .int i), (2, .int m)]) k_X11_throwerOfDealt rfl (Nat.le_of_ble_eq_true rfl) ?_
  refine zIconst d_X11_throwerOfDealt_0 (v := 0) ic_0 (q := 1) rfl ?_
  refine zIstoreN d_X11_throwerOfDealt_1 rfl (by decide) rfl (q := 2) rfl ?_
  refine zIconst d_X11_throwerOfDealt_2 (v := 0) ic_0 (q := 3) rfl ?_
  refine zIstore d_X11_throwerOfDealt_3 (by decide) rfl (q := 5) rfl ?_
  refine zSub [0, 1, 2, 3, 4] rfl ?_
  exact loop 0 (Nat.zero_le _) rfl
theorem sp_X11_dealt (hd : 7 ≤ d) (hK : zSky I ns nt nh) {i : Int32} : zPure g l d m_X11_dealt [.ref 0, .int i] I L fs (.int (if i < -1 then -1 else if nt = 0 then -2 else if 6 < zbc (zWait I ns) then -5 else if i = -1 then nI (zMnD I nt (zbc (zWait I ns)).toNatClampNeg) else if i < zbc (zWait I ns) then zDt I nt i (nI (zMnD I nt (zbc (zWait I ns)).toNatClampNeg)) else -2)) := by
  have hnt := hK.2.2.1
  refine zSp_of (lv := [(0, .ref 0), (1, .int i)]) k_X11_dealt rfl (Nat.le_of_ble_eq_true rfl) ?_
  refine zIloadN d_X11_dealt_0 rfl rfl (q := 1) rfl ?_
  refine zIconst d_X11_dealt_1 (v := -1) ic_m1 (q := 2) rfl ?_
  refine zIcmp_ge d_X11_dealt_2 (tgt := 7) (q := 5) (by decide) rfl (fun h2 => ?_) (fun h2 => ?_)
  · have c1 : ¬ i < -1 := Int32.not_lt.mpr h2
    refine zAloadN d_X11_dealt_7 rfl rfl (q := 8) rfl ?_
    refine zGetR d_X11_dealt_8 ff_X11_10 sh_0 (by decide) r_0_0 (q := 11) rfl ?_
    refine zGetI d_X11_dealt_11 ff_X11_189 sh_1 (by decide) (q := 14) rfl ?_
    rw [hK.1.2.1]
    refine zIf_ne d_X11_dealt_14 (tgt := 20) (q := 17) (by decide) rfl (fun h14 => ?_) (fun h14 => ?_)
    · have c2 : ¬ nt = 0 := fun e => h14 (by rw [e]; rfl)
      refine zAloadN d_X11_dealt_20 rfl rfl (q := 21) rfl ?_
      refine zGetR d_X11_dealt_21 ff_X11_10 sh_0 (by decide) r_0_0 (q := 24) rfl ?_
      refine zCallVP d_X11_dealt_24 ml_X11_192 k_X9_waiting ki_X9_waiting ks_X9_waiting (sp_X9_waiting (d := d - 1) (by omega) hK) rfl rfl sh_1 (by decide) rfl (by decide) (Nat.le_of_ble_eq_true rfl) (by decide) (by omega) zns100 (q := 27) rfl ?_
      refine zCallSP d_X11_dealt_27 ml_X11_195 k_J6_bitCount kt_J6_bitCount (sp_J6_bitCount (d := d - 1) (by omega) ) rfl rfl (Nat.le_of_ble_eq_true rfl) (by decide) (by omega) zns100 (q := 30) rfl ?_
      refine zIstoreN d_X11_dealt_30 rfl (by decide) rfl (q := 31) rfl ?_
      refine zIloadN d_X11_dealt_31 rfl rfl (q := 32) rfl ?_
      refine zBipush d_X11_dealt_32 (v := 6) bc_6 (q := 34) rfl ?_
      refine zIcmp_le d_X11_dealt_34 (tgt := 40) (q := 37) (by decide) rfl (fun h34 => ?_) (fun h34 => ?_)
      · have c3 : ¬ 6 < zbc (zWait I ns) := Int32.not_lt.mpr h34
        obtain ⟨n, hn, en⟩ := zn1 (x := zbc (zWait I ns)) (n := 7) (by omega) (zbc_nn _) (by show zbc (zWait I ns) < 7; grind)
        rw [en]
        rw [show (nI n).toNatClampNeg = n from zcl_n (by omega)]
        refine zAloadN d_X11_dealt_40 rfl rfl (q := 41) rfl ?_
        refine zIloadN d_X11_dealt_41 rfl rfl (q := 42) rfl ?_
        refine zCallVP d_X11_dealt_42 ml_X11_200 k_X11_minutesToDeal ki_X11_minutesToDeal ks_X11_minutesToDeal (sp_X11_minutesToDeal (d := d - 1) (by omega) hK (n := n) (by omega)) rfl rfl sh_0 (by decide) rfl (by decide) (Nat.le_of_ble_eq_true rfl) (by decide) (by omega) zns100 (q := 45) rfl ?_
        refine zIstoreN d_X11_dealt_45 rfl (by decide) rfl (q := 46) rfl ?_
        refine zIloadN d_X11_dealt_46 rfl rfl (q := 47) rfl ?_
        refine zIconst d_X11_dealt_47 (v := -1) ic_m1 (q := 48) rfl ?_
        refine zIcmp_ne d_X11_dealt_48 (tgt := 53) (q := 51) (by decide) rfl (fun h48 => ?_) (fun h48 => ?_)
        · have c4 : ¬ i = -1 := h48
          refine zIloadN d_X11_dealt_53 rfl rfl (q := 54) rfl ?_
          refine zIloadN d_X11_dealt_54 rfl rfl (q := 55) rfl ?_
          refine zIcmp_ge d_X11_dealt_55 (tgt := 67) (q := 58) (by decide) rfl (fun h55 => ?_) (fun h55 => ?_)
          · have c5 : ¬ i < nI n := Int32.not_lt.mpr h55
            refine zBipush d_X11_dealt_67 (v := -2) bc_m2 (q := 69) rfl ?_
            refine zIret d_X11_dealt_69 rfl rfl rfl ?_
            exact zPi (by rw [if_neg c1, if_neg c2, if_neg (en ▸ c3), if_neg c4]; first | exact (if_pos c5).symm | exact (if_neg c5).symm)
          · have c5 : i < nI n := Int32.not_le.mp h55
            refine zAloadN d_X11_dealt_58 rfl rfl (q := 59) rfl ?_
            refine zIloadN d_X11_dealt_59 rfl rfl (q := 60) rfl ?_
            refine zIloadN d_X11_dealt_60 rfl rfl (q := 61) rfl ?_
            refine zCallVP d_X11_dealt_61 ml_X11_203 k_X11_throwerOfDealt ki_X11_throwerOfDealt ks_X11_throwerOfDealt (sp_X11_throwerOfDealt (d := d - 1) (by omega) hK) rfl rfl sh_0 (by decide) rfl (by decide) (Nat.le_of_ble_eq_true rfl) (by decide) (by omega) zns100 (q := 64) rfl ?_
            refine zGoto d_X11_dealt_64 (q := 69) (by decide) ?_
            refine zIret d_X11_dealt_69 rfl rfl rfl ?_
            exact zPi (by rw [if_neg c1, if_neg c2, if_neg (en ▸ c3), if_neg c4]; first | exact (if_pos c5).symm | exact (if_neg c5).symm)
        · have c4 : i = -1 := by simpa using h48
          refine zIloadN d_X11_dealt_51 rfl rfl (q := 52) rfl ?_
          refine zIret d_X11_dealt_52 rfl rfl rfl ?_
          exact zPi (by rw [if_neg c1, if_neg c2, if_neg (en ▸ c3), if_pos c4])
      · have c3 : 6 < zbc (zWait I ns) := Int32.not_le.mp h34
        refine zBipush d_X11_dealt_37 (v := -5) bc_m5 (q := 39) rfl ?_
        refine zIret d_X11_dealt_39 rfl rfl rfl ?_
        exact zPi (by rw [if_neg c1, if_neg c2, if_pos c3])
    · have c2 : nt = 0 := Nat.le_zero.mp (nle (a := 0) (b := nt) (by rw [show nI nt = 0 by simpa using h14]; decide))
      refine zBipush d_X11_dealt_17 (v := -2) bc_m2 (q := 19) rfl ?_
      refine zIret d_X11_dealt_19 rfl rfl rfl ?_
      exact zPi (by rw [if_neg c1, if_pos c2])
  · have c1 : i < -1 := Int32.not_le.mp h2
    refine zIconst d_X11_dealt_5 (v := -1) ic_m1 (q := 6) rfl ?_
    refine zIret d_X11_dealt_6 rfl rfl rfl ?_
    exact zPi (by rw [if_pos c1])
end S36

