theorem d_X10_readBracketed_0 : decode (zmc m_X10_readBracketed) 0 = .ok (.aload_n 0, 1) := by decide +kernel
theorem d_X10_readBracketed_1 : decode (zmc m_X10_readBracketed) 1 = .ok (.iconst 0, 1) := by decide +kernel
theorem d_X10_readBracketed_2 : decode (zmc m_X10_readBracketed) 2 = .ok (.iload_n 1, 1) := by decide +kernel
theorem d_X10_readBracketed_3 : decode (zmc m_X10_readBracketed) 3 = .ok (.invokevirtual 39, 3) := by decide +kernel
theorem d_X10_readBracketed_6 : decode (zmc m_X10_readBracketed) 6 = .ok (.ifCond .eq 12, 3) := by decide +kernel
theorem d_X10_readBracketed_9 : decode (zmc m_X10_readBracketed) 9 = .ok (.aload_n 0, 1) := by decide +kernel
theorem d_X10_readBracketed_10 : decode (zmc m_X10_readBracketed) 10 = .ok (.invokevirtual 35, 3) := by decide +kernel
theorem d_X10_readBracketed_13 : decode (zmc m_X10_readBracketed) 13 = .ok (.bipush 41, 2) := by decide +kernel
theorem d_X10_readBracketed_15 : decode (zmc m_X10_readBracketed) 15 = .ok (.if_icmp .eq 5, 3) := by decide +kernel
theorem d_X10_readBracketed_18 : decode (zmc m_X10_readBracketed) 18 = .ok (.iconst 0, 1) := by decide +kernel
theorem d_X10_readBracketed_19 : decode (zmc m_X10_readBracketed) 19 = .ok (.ireturn, 1) := by decide +kernel
theorem d_X10_readBracketed_20 : decode (zmc m_X10_readBracketed) 20 = .ok (.aload_n 0, 1) := by decide +kernel
theorem d_X10_readBracketed_21 : decode (zmc m_X10_readBracketed) 21 = .ok (.dup, 1) := by decide +kernel
theorem d_X10_readBracketed_22 : decode (zmc m_X10_readBracketed) 22 = .ok (.getfield 28, 3) := by decide +kernel
theorem d_X10_readBracketed_25 : decode (zmc m_X10_readBracketed) 25 = .ok (.iconst 1, 1) := by decide +kernel
theorem d_X10_readBracketed_26 : decode (zmc m_X10_readBracketed) 26 = .ok (.iadd, 1) := by decide +kernel
theorem d_X10_readBracketed_27 : decode (zmc m_X10_readBracketed) 27 = .ok (.putfield 28, 3) := by decide +kernel
theorem d_X10_readBracketed_30 : decode (zmc m_X10_readBracketed) 30 = .ok (.iconst 1, 1) := by decide +kernel
theorem d_X10_readBracketed_31 : decode (zmc m_X10_readBracketed) 31 = .ok (.ireturn, 1) := by decide +kernel
theorem d_X10_readJoined_0 : decode (zmc m_X10_readJoined) 0 = .ok (.aload_n 0, 1) := by decide +kernel
theorem d_X10_readJoined_1 : decode (zmc m_X10_readJoined) 1 = .ok (.iload_n 1, 1) := by decide +kernel
theorem d_X10_readJoined_2 : decode (zmc m_X10_readJoined) 2 = .ok (.iconst 1, 1) := by decide +kernel
theorem d_X10_readJoined_3 : decode (zmc m_X10_readJoined) 3 = .ok (.iadd, 1) := by decide +kernel
theorem d_X10_readJoined_4 : decode (zmc m_X10_readJoined) 4 = .ok (.iload_n 2, 1) := by decide +kernel
theorem d_X10_readJoined_5 : decode (zmc m_X10_readJoined) 5 = .ok (.invokevirtual 54, 3) := by decide +kernel
theorem d_X10_readJoined_8 : decode (zmc m_X10_readJoined) 8 = .ok (.ifCond .ne 5, 3) := by decide +kernel
theorem d_X10_readJoined_11 : decode (zmc m_X10_readJoined) 11 = .ok (.iconst 0, 1) := by decide +kernel
theorem d_X10_readJoined_12 : decode (zmc m_X10_readJoined) 12 = .ok (.ireturn, 1) := by decide +kernel
theorem d_X10_readJoined_13 : decode (zmc m_X10_readJoined) 13 = .ok (.iload_n 1, 1) := by decide +kernel
theorem d_X10_readJoined_14 : decode (zmc m_X10_readJoined) 14 = .ok (.iconst 2, 1) := by decide +kernel
theorem d_X10_readJoined_15 : decode (zmc m_X10_readJoined) 15 = .ok (.if_icmp .ne 7, 3) := by decide +kernel
theorem d_X10_readJoined_18 : decode (zmc m_X10_readJoined) 18 = .ok (.iconst 1, 1) := by decide +kernel
theorem d_X10_readJoined_19 : decode (zmc m_X10_readJoined) 19 = .ok (.goto 5, 3) := by decide +kernel
theorem d_X10_readJoined_22 : decode (zmc m_X10_readJoined) 22 = .ok (.bipush 120, 2) := by decide +kernel
theorem d_X10_readJoined_24 : decode (zmc m_X10_readJoined) 24 = .ok (.istore_n 3, 1) := by decide +kernel
theorem d_X10_readJoined_25 : decode (zmc m_X10_readJoined) 25 = .ok (.iconst 0, 1) := by decide +kernel
theorem d_X10_readJoined_26 : decode (zmc m_X10_readJoined) 26 = .ok (.istore 4, 2) := by decide +kernel
theorem d_X10_readJoined_28 : decode (zmc m_X10_readJoined) 28 = .ok (.iload 4, 2) := by decide +kernel
theorem d_X10_readJoined_30 : decode (zmc m_X10_readJoined) 30 = .ok (.iload_n 3, 1) := by decide +kernel
theorem d_X10_readJoined_31 : decode (zmc m_X10_readJoined) 31 = .ok (.if_icmp .ge 59, 3) := by decide +kernel
theorem d_X10_readJoined_34 : decode (zmc m_X10_readJoined) 34 = .ok (.aload_n 0, 1) := by decide +kernel
theorem d_X10_readJoined_35 : decode (zmc m_X10_readJoined) 35 = .ok (.invokevirtual 35, 3) := by decide +kernel
theorem d_X10_readJoined_38 : decode (zmc m_X10_readJoined) 38 = .ok (.invokestatic 57, 3) := by decide +kernel
theorem d_X10_readJoined_41 : decode (zmc m_X10_readJoined) 41 = .ok (.iload_n 1, 1) := by decide +kernel
theorem d_X10_readJoined_42 : decode (zmc m_X10_readJoined) 42 = .ok (.if_icmp .ne 48, 3) := by decide +kernel
theorem d_X10_readJoined_45 : decode (zmc m_X10_readJoined) 45 = .ok (.aload_n 0, 1) := by decide +kernel
theorem d_X10_readJoined_46 : decode (zmc m_X10_readJoined) 46 = .ok (.invokevirtual 35, 3) := by decide +kernel
theorem d_X10_readJoined_49 : decode (zmc m_X10_readJoined) 49 = .ok (.istore 5, 2) := by decide +kernel
theorem d_X10_readJoined_51 : decode (zmc m_X10_readJoined) 51 = .ok (.aload_n 0, 1) := by decide +kernel
theorem d_X10_readJoined_52 : decode (zmc m_X10_readJoined) 52 = .ok (.dup, 1) := by decide +kernel
theorem d_X10_readJoined_53 : decode (zmc m_X10_readJoined) 53 = .ok (.getfield 28, 3) := by decide +kernel
theorem d_X10_readJoined_56 : decode (zmc m_X10_readJoined) 56 = .ok (.iconst 1, 1) := by decide +kernel
theorem d_X10_readJoined_57 : decode (zmc m_X10_readJoined) 57 = .ok (.iadd, 1) := by decide +kernel
theorem d_X10_readJoined_58 : decode (zmc m_X10_readJoined) 58 = .ok (.putfield 28, 3) := by decide +kernel
theorem d_X10_readJoined_61 : decode (zmc m_X10_readJoined) 61 = .ok (.aload_n 0, 1) := by decide +kernel
theorem d_X10_readJoined_62 : decode (zmc m_X10_readJoined) 62 = .ok (.iload_n 1, 1) := by decide +kernel
theorem d_X10_readJoined_63 : decode (zmc m_X10_readJoined) 63 = .ok (.iconst 1, 1) := by decide +kernel
theorem d_X10_readJoined_64 : decode (zmc m_X10_readJoined) 64 = .ok (.iadd, 1) := by decide +kernel
theorem d_X10_readJoined_65 : decode (zmc m_X10_readJoined) 65 = .ok (.iload_n 2, 1) := by decide +kernel
theorem d_X10_readJoined_66 : decode (zmc m_X10_readJoined) 66 = .ok (.invokevirtual 54, 3) := by decide +kernel
theorem d_X10_readJoined_69 : decode (zmc m_X10_readJoined) 69 = .ok (.ifCond .ne 5, 3) := by decide +kernel
theorem d_X10_readJoined_72 : decode (zmc m_X10_readJoined) 72 = .ok (.iconst 0, 1) := by decide +kernel
theorem d_X10_readJoined_73 : decode (zmc m_X10_readJoined) 73 = .ok (.ireturn, 1) := by decide +kernel
theorem d_X10_readJoined_74 : decode (zmc m_X10_readJoined) 74 = .ok (.aload_n 0, 1) := by decide +kernel
theorem d_X10_readJoined_75 : decode (zmc m_X10_readJoined) 75 = .ok (.getfield 24, 3) := by decide +kernel
theorem d_X10_readJoined_78 : decode (zmc m_X10_readJoined) 78 = .ok (.iload 5, 2) := by decide +kernel
theorem d_X10_readJoined_80 : decode (zmc m_X10_readJoined) 80 = .ok (.iconst 0, 1) := by decide +kernel
theorem d_X10_readJoined_81 : decode (zmc m_X10_readJoined) 81 = .ok (.invokevirtual 46, 3) := by decide +kernel
theorem d_X10_readJoined_84 : decode (zmc m_X10_readJoined) 84 = .ok (.iinc 4 1, 3) := by decide +kernel
theorem d_X10_readJoined_87 : decode (zmc m_X10_readJoined) 87 = .ok (.goto (-59), 3) := by decide +kernel
theorem d_X10_readJoined_90 : decode (zmc m_X10_readJoined) 90 = .ok (.iconst 1, 1) := by decide +kernel
theorem d_X10_readJoined_91 : decode (zmc m_X10_readJoined) 91 = .ok (.ireturn, 1) := by decide +kernel
theorem d_X10_readPart_0 : decode (zmc m_X10_readPart) 0 = .ok (.iload_n 1, 1) := by decide +kernel
theorem d_X10_readPart_1 : decode (zmc m_X10_readPart) 1 = .ok (.iconst 5, 1) := by decide +kernel
theorem d_X10_readPart_2 : decode (zmc m_X10_readPart) 2 = .ok (.if_icmp .lt 11, 3) := by decide +kernel
theorem d_X10_readPart_5 : decode (zmc m_X10_readPart) 5 = .ok (.aload_n 0, 1) := by decide +kernel
theorem d_X10_readPart_6 : decode (zmc m_X10_readPart) 6 = .ok (.iload_n 2, 1) := by decide +kernel
theorem d_X10_readPart_7 : decode (zmc m_X10_readPart) 7 = .ok (.invokevirtual 61, 3) := by decide +kernel
theorem d_X10_readPart_10 : decode (zmc m_X10_readPart) 10 = .ok (.goto 9, 3) := by decide +kernel
theorem d_X10_readPart_13 : decode (zmc m_X10_readPart) 13 = .ok (.aload_n 0, 1) := by decide +kernel
theorem d_X10_readPart_14 : decode (zmc m_X10_readPart) 14 = .ok (.iload_n 1, 1) := by decide +kernel
theorem d_X10_readPart_15 : decode (zmc m_X10_readPart) 15 = .ok (.iload_n 2, 1) := by decide +kernel
theorem d_X10_readPart_16 : decode (zmc m_X10_readPart) 16 = .ok (.invokevirtual 39, 3) := by decide +kernel
theorem d_X10_readPart_19 : decode (zmc m_X10_readPart) 19 = .ok (.ireturn, 1) := by decide +kernel
theorem d_X10_readTurned_0 : decode (zmc m_X10_readTurned) 0 = .ok (.aload_n 0, 1) := by decide +kernel
theorem d_X10_readTurned_1 : decode (zmc m_X10_readTurned) 1 = .ok (.iload_n 2, 1) := by decide +kernel
theorem d_X10_readTurned_2 : decode (zmc m_X10_readTurned) 2 = .ok (.invokevirtual 61, 3) := by decide +kernel
theorem d_X10_readTurned_5 : decode (zmc m_X10_readTurned) 5 = .ok (.ifCond .ne 5, 3) := by decide +kernel
theorem d_X10_readTurned_8 : decode (zmc m_X10_readTurned) 8 = .ok (.iconst 0, 1) := by decide +kernel
theorem d_X10_readTurned_9 : decode (zmc m_X10_readTurned) 9 = .ok (.ireturn, 1) := by decide +kernel
theorem d_X10_readTurned_10 : decode (zmc m_X10_readTurned) 10 = .ok (.aload_n 0, 1) := by decide +kernel
theorem d_X10_readTurned_11 : decode (zmc m_X10_readTurned) 11 = .ok (.getfield 24, 3) := by decide +kernel
theorem d_X10_readTurned_14 : decode (zmc m_X10_readTurned) 14 = .ok (.iload_n 1, 1) := by decide +kernel
theorem d_X10_readTurned_15 : decode (zmc m_X10_readTurned) 15 = .ok (.bipush 33, 2) := by decide +kernel
theorem d_X10_readTurned_17 : decode (zmc m_X10_readTurned) 17 = .ok (.if_icmp .ne 7, 3) := by decide +kernel
theorem d_X10_readTurned_20 : decode (zmc m_X10_readTurned) 20 = .ok (.iconst 4, 1) := by decide +kernel
theorem d_X10_readTurned_21 : decode (zmc m_X10_readTurned) 21 = .ok (.goto 4, 3) := by decide +kernel
theorem d_X10_readTurned_24 : decode (zmc m_X10_readTurned) 24 = .ok (.iconst 5, 1) := by decide +kernel
theorem d_X10_readTurned_25 : decode (zmc m_X10_readTurned) 25 = .ok (.iconst 0, 1) := by decide +kernel
theorem d_X10_readTurned_26 : decode (zmc m_X10_readTurned) 26 = .ok (.invokevirtual 46, 3) := by decide +kernel
theorem d_X10_readTurned_29 : decode (zmc m_X10_readTurned) 29 = .ok (.iconst 1, 1) := by decide +kernel
theorem d_X10_readTurned_30 : decode (zmc m_X10_readTurned) 30 = .ok (.ireturn, 1) := by decide +kernel
/-! TEXTS WITHIN TEXTS -/
section S25
variable {g : zG} {l : Launch} {d : Nat} {I : Nat → Nat → Int32} {L : Nat → Nat → Int64} {a b h m : Nat} {f : Nat → zRr} {o : Int32}
theorem zMoreJ_0 {T : Nat → Int32} {t : Int32} {p : Nat} {c : List zSt1} : zMoreJ f T m t 0 p c = (p, some c) := rfl
theorem zMoreJ_f {T : Nat → Int32} {t : Int32} {n p : Nat} {c : List zSt1} (e : ¬ zTi (zAt T m p) = t) : zMoreJ f T m t n p c = (p, some c) := by
  cases n with
  | zero => rfl
  | succ n => unfold zMoreJ; exact if_neg e
theorem zMoreJ_n {T : Nat → Int32} {t : Int32} {n p : Nat} {c : List zSt1} (e : zTi (zAt T m p) = t) (e2 : (f (p + 1)).2 = none) : zMoreJ f T m t (n + 1) p c = ((f (p + 1)).1, none) := by
  unfold zMoreJ; rw [if_pos e, e2]
theorem zMoreJ_s {T : Nat → Int32} {t : Int32} {n p : Nat} {c c1 : List zSt1} (e : zTi (zAt T m p) = t) (e2 : (f (p + 1)).2 = some c1) : zMoreJ f T m t (n + 1) p c = zMoreJ f T m t n (f (p + 1)).1 (c ++ (c1 ++ [(zAt T m p, 0)])) := by
  conv => lhs; unfold zMoreJ
  rw [if_pos e, e2]
theorem zJoinP_n {T : Nat → Int32} {t : Int32} {n p : Nat} (e : (f p).2 = none) : zJoinP f T m t n p = ((f p).1, none) := by unfold zJoinP; rw [e]
theorem zJoinP_s {T : Nat → Int32} {t : Int32} {n p : Nat} {c : List zSt1} (e : (f p).2 = some c) : zJoinP f T m t n p = zMoreJ f T m t n (f p).1 c := by unfold zJoinP; rw [e]
theorem sp_X10_readJoined (hd : 2 ≤ d) (h1 : I 29 1 = nI m) (hm : m ≤ 120) (hw : zLwf h) (hh : 54 ≤ h) (hg : zGd m f) {t n : Nat} (ht : t < 5) (hn : n = if t = 2 then 1 else 120) (hp : zPc g l (d - 1) I L a b h m m_X10_readPart [.ref 29, .int (nI (t + 1)), .int o] f) :
    zPc g l d I L a b h m m_X10_readJoined [.ref 29, .int (nI t), .int o] (zJoinP f (I 30) m (nI t) n) := by
  intro J p c hJ hc hpm
  have hn120 : n ≤ 120 := by rw [hn]; split <;> omega
  have loop : ∀ i, i ≤ n → ∀ J p1 cc, zTp I J h p1 (c ++ cc) → (c ++ cc).length ≤ p1 → p1 ≤ m → zMoreJ f (I 30) m (nI t) (n - i) p1 cc = zJoinP f (I 30) m (nI t) n p → zA g l d m_X10_readJoined J L (a, b, some h) 28 [(4, .int (nI i)), (3, .int (nI n)), (0, .ref 29), (1, .int (nI t)), (2, .int o)] (zX (fun x w => ∃ J', w = zU J' L (a, b, some h) ∧ zRx I h c (zJoinP f (I 30) m (nI t) n p) x J')) := by
    refine zloop n (fun i hi ih J p1 cc hJ hc hpm hx => ?_)
    refine zIload d_X10_readJoined_28 rfl (q := 30) rfl ?_
    refine zIloadN d_X10_readJoined_30 rfl rfl (q := 31) rfl ?_
    refine zIcmp_ge d_X10_readJoined_31 (tgt := 90) (q := 34) (by decide) rfl (fun h31 => ?_) (fun h31 => ?_)
    · have e := nle h31
      rw [show n - i = 0 by omega, zMoreJ_0] at hx
      refine zIconst d_X10_readJoined_90 (v := 1) ic_1 (q := 91) rfl ?_
      refine zIret d_X10_readJoined_91 rfl rfl rfl ?_
      exact ⟨_, rfl, _, rfl, zRx_s hx.symm rfl hJ⟩
    · have hlt := nnle h31
      have en : n - i = (n - (i + 1)) + 1 := by omega
      refine zAloadN d_X10_readJoined_34 rfl rfl (q := 35) rfl ?_
      refine zCallVP d_X10_readJoined_35 ml_X10_35 k_X10_here ki_X10_here ks_X10_here (sp_hereT (d := d - 1) (h := h) (by omega) h1 hm hh hJ hpm) rfl rfl sh_29 (by decide) rfl (by decide) (Nat.le_of_ble_eq_true rfl) (by decide) (by omega) zns100 (q := 38) rfl ?_
      refine zCallSP d_X10_readJoined_38 ml_X10_57 k_X10_tightnessOf kt_X10_tightnessOf (sp_X10_tightnessOf (d := d - 1) (by omega) ) rfl rfl (Nat.le_of_ble_eq_true rfl) (by decide) (by omega) zns100 (q := 41) rfl ?_
      refine zIloadN d_X10_readJoined_41 rfl rfl (q := 42) rfl ?_
      refine zIcmp_ne d_X10_readJoined_42 (tgt := 90) (q := 45) (by decide) rfl (fun h42 => ?_) (fun h42 => ?_)
      · rw [zMoreJ_f (fun e => h42 e)] at hx
        refine zIconst d_X10_readJoined_90 (v := 1) ic_1 (q := 91) rfl ?_
        refine zIret d_X10_readJoined_91 rfl rfl rfl ?_
        exact ⟨_, rfl, _, rfl, zRx_s hx.symm rfl hJ⟩
      · have ht1 : zTi (zAt (I 30) m p1) = nI t := h42
        have hpm2 : p1 < m := zTi_in ht ht1
        rw [en] at hx
        refine zAloadN d_X10_readJoined_45 rfl rfl (q := 46) rfl ?_
        refine zCallVP d_X10_readJoined_46 ml_X10_35 k_X10_here ki_X10_here ks_X10_here (sp_hereT (d := d - 1) (h := h) (by omega) h1 hm hh hJ hpm) rfl rfl sh_29 (by decide) rfl (by decide) (Nat.le_of_ble_eq_true rfl) (by decide) (by omega) zns100 (q := 49) rfl ?_
        refine zIstore d_X10_readJoined_49 (by decide) rfl (q := 51) rfl ?_
        refine zAloadN d_X10_readJoined_51 rfl rfl (q := 52) rfl ?_
        refine zDup d_X10_readJoined_52 rfl (q := 53) rfl ?_
        refine zGetI d_X10_readJoined_53 ff_X10_28 sh_29 (by decide) (q := 56) rfl ?_
        refine zIconst d_X10_readJoined_56 (v := 1) ic_1 (q := 57) rfl ?_
        refine zIadd d_X10_readJoined_57 (q := 58) rfl ?_
        rw [hJ.2.2.1, nI_1]
        refine zPutI d_X10_readJoined_58 ff_X10_28 rfl rfl rfl sh_29 (by decide) (q := 61) rfl ?_
        refine zAloadN d_X10_readJoined_61 rfl rfl (q := 62) rfl ?_
        refine zIloadN d_X10_readJoined_62 rfl rfl (q := 63) rfl ?_
        refine zIconst d_X10_readJoined_63 (v := 1) ic_1 (q := 64) rfl ?_
        refine zIadd d_X10_readJoined_64 (q := 65) rfl ?_
        rw [nI_1]
        refine zIloadN d_X10_readJoined_65 rfl rfl (q := 66) rfl ?_
        refine zCallVX d_X10_readJoined_66 ml_X10_54 k_X10_readPart ki_X10_readPart ks_X10_readPart (hp _ (p1 + 1) _ (zTp_go (q := p1 + 1) hh hJ) (by omega) hpm2) rfl rfl sh_29 (by decide) rfl (by decide) (Nat.le_of_ble_eq_true rfl) (by decide) (by omega) zns100 (q := 69) rfl (fun x w' hw' => ?_)
        obtain ⟨J1, rfl, hr⟩ := hw'
        refine zIf_ne d_X10_readJoined_69 (tgt := 74) (q := 72) (by decide) rfl (fun h69 => ?_) (fun h69 => ?_)
        · obtain ⟨c1, hf, hJ1⟩ := zRx_1 hr h69
          rw [zMoreJ_s ht1 hf] at hx
          obtain ⟨g1, g2, g3⟩ := hg (p1 + 1) hpm2
          obtain ⟨g4, g5, _⟩ := g3 c1 hf
          have el : (c ++ cc ++ c1).length ≤ (f (p1 + 1)).1 - 1 := by rw [List.length_append]; omega
          refine zAloadN d_X10_readJoined_74 rfl rfl (q := 75) rfl ?_
          refine zGetR d_X10_readJoined_75 ff_X10_24 sh_29 (by decide) r_into (q := 78) rfl ?_
          refine zIload d_X10_readJoined_78 rfl (q := 80) rfl ?_
          refine zIconst d_X10_readJoined_80 (v := 0) ic_0 (q := 81) rfl ?_
          refine zCallVV d_X10_readJoined_81 ml_X10_46 k_X6_add ki_X6_add ks_X6_add (sp_X6_add (d := d - 1) (by omega) hw hJ1.2.2.2.1 (by omega)) rfl rfl hw.1 (by decide) rfl (zlt4 hw) (Nat.le_of_ble_eq_true rfl) (by decide) (by omega) zns100 (q := 84) rfl (fun w' hw' => ?_)
          subst hw'
          refine zIinc d_X10_readJoined_84 rfl (zinc _) (by decide) rfl (q := 87) rfl ?_
          refine zGoto d_X10_readJoined_87 (q := 28) (by decide) ?_
          refine zSub [0, 2, 3, 4, 5] rfl ?_
          have q := zTp_add (s := zAt (I 30) m p1) (v := 0) hh hJ1
          have eq0 : c ++ cc ++ c1 ++ [(zAt (I 30) m p1, 0)] = c ++ (cc ++ (c1 ++ [(zAt (I 30) m p1, 0)])) := by rw [List.append_assoc, List.append_assoc]
          rw [eq0] at q
          refine ih hlt _ _ _ q ?_ g1 hx
          rw [← eq0, List.length_append]
          show (c ++ cc ++ c1).length + 1 ≤ _
          omega
        · obtain ⟨hf, c', hJ1⟩ := zRx_0 hr (by simpa using h69)
          rw [zMoreJ_n ht1 hf] at hx
          refine zIconst d_X10_readJoined_72 (v := 0) ic_0 (q := 73) rfl ?_
          refine zIret d_X10_readJoined_73 rfl rfl rfl ?_
          exact ⟨_, rfl, _, rfl, zRx_n hx.symm rfl hJ1⟩
  refine zSp_of (lv := [(0, .ref 29), (1, .int (nI t)), (2, .int o)]) k_X10_readJoined rfl (Nat.le_of_ble_eq_true rfl) ?_
  refine zAloadN d_X10_readJoined_0 rfl rfl (q := 1) rfl ?_
  refine zIloadN d_X10_readJoined_1 rfl rfl (q := 2) rfl ?_
  refine zIconst d_X10_readJoined_2 (v := 1) ic_1 (q := 3) rfl ?_
  refine zIadd d_X10_readJoined_3 (q := 4) rfl ?_
  rw [nI_1]
  refine zIloadN d_X10_readJoined_4 rfl rfl (q := 5) rfl ?_
  refine zCallVX d_X10_readJoined_5 ml_X10_54 k_X10_readPart ki_X10_readPart ks_X10_readPart (hp J p c hJ hc hpm) rfl rfl sh_29 (by decide) rfl (by decide) (Nat.le_of_ble_eq_true rfl) (by decide) (by omega) zns100 (q := 8) rfl (fun x w' hw' => ?_)
  obtain ⟨J1, rfl, hr⟩ := hw'
  refine zIf_ne d_X10_readJoined_8 (tgt := 13) (q := 11) (by decide) rfl (fun h8 => ?_) (fun h8 => ?_)
  · obtain ⟨c1, hf, hJ1⟩ := zRx_1 hr h8
    obtain ⟨g1, g2, g3⟩ := hg p hpm
    obtain ⟨g4, g5, _⟩ := g3 c1 hf
    refine zIloadN d_X10_readJoined_13 rfl rfl (q := 14) rfl ?_
    refine zIconst d_X10_readJoined_14 (v := 2) ic_2 (q := 15) rfl ?_
    refine zIcmp_ne d_X10_readJoined_15 (tgt := 22) (q := 18) (by decide) rfl (fun h15 => ?_) (fun h15 => ?_)
    · have e1 : t ≠ 2 := fun e => h15 (by rw [e]; rfl)
      have en : n = 120 := by rw [hn, if_neg e1]
      refine zBipush d_X10_readJoined_22 (v := 120) bc_120 (q := 24) rfl ?_
      refine zIstoreN d_X10_readJoined_24 rfl (by decide) rfl (q := 25) rfl ?_
      refine zIconst d_X10_readJoined_25 (v := 0) ic_0 (q := 26) rfl ?_
      refine zIstore d_X10_readJoined_26 (by decide) rfl (q := 28) rfl ?_
      refine zSub [0, 1, 2, 3, 4] rfl ?_
      have q := loop 0 (Nat.zero_le _) J1 (f p).1 c1 hJ1 (by rw [List.length_append]; omega) g1 (zJoinP_s hf).symm
      rw [en] at q ⊢
      exact q
    · have e1 : t = 2 := Nat.le_antisymm (nle (a := 2) (b := t) (by rw [h15]; decide)) (nle (a := t) (b := 2) (by rw [h15]; decide))
      have en : n = 1 := by rw [hn, if_pos e1]
      refine zIconst d_X10_readJoined_18 (v := 1) ic_1 (q := 19) rfl ?_
      refine zGoto d_X10_readJoined_19 (q := 24) (by decide) ?_
      refine zIstoreN d_X10_readJoined_24 rfl (by decide) rfl (q := 25) rfl ?_
      refine zIconst d_X10_readJoined_25 (v := 0) ic_0 (q := 26) rfl ?_
      refine zIstore d_X10_readJoined_26 (by decide) rfl (q := 28) rfl ?_
      refine zSub [0, 1, 2, 3, 4] rfl ?_
      have q := loop 0 (Nat.zero_le _) J1 (f p).1 c1 hJ1 (by rw [List.length_append]; omega) g1 (zJoinP_s hf).symm
      rw [en] at q ⊢
      exact q
  · obtain ⟨hf, c', hJ1⟩ := zRx_0 hr (by simpa using h8)
    refine zIconst d_X10_readJoined_11 (v := 0) ic_0 (q := 12) rfl ?_
    refine zIret d_X10_readJoined_12 rfl rfl rfl ?_
    exact ⟨_, rfl, _, rfl, zRx_n (zJoinP_n hf) rfl hJ1⟩
theorem sp_part0 (hd : 1 ≤ d) (hp : zPc g l (d - 1) I L a b h m m_X10_readOperand [.ref 29, .int o] f) : zPc g l d I L a b h m m_X10_readPart [.ref 29, .int (nI 5), .int o] f := by
  intro J p c hJ hc hpm
  refine zSp_of (lv := [(0, .ref 29), (1, .int (nI 5)), (2, .int o)]) k_X10_readPart rfl (Nat.le_of_ble_eq_true rfl) ?_
  refine zIloadN d_X10_readPart_0 rfl rfl (q := 1) rfl ?_
  refine zIconst d_X10_readPart_1 (v := 5) ic_5 (q := 2) rfl ?_
  refine zIcmp_lt d_X10_readPart_2 (tgt := 13) (q := 5) (by decide) rfl (fun h => absurd h (by decide)) (fun h2 => ?_)
  refine zAloadN d_X10_readPart_5 rfl rfl (q := 6) rfl ?_
  refine zIloadN d_X10_readPart_6 rfl rfl (q := 7) rfl ?_
  refine zCallVX d_X10_readPart_7 ml_X10_61 k_X10_readOperand ki_X10_readOperand ks_X10_readOperand (hp J p c hJ hc hpm) rfl rfl sh_29 (by decide) rfl (by decide) (Nat.le_of_ble_eq_true rfl) (by decide) (by omega) zns100 (q := 10) rfl (fun x w' hw' => ?_)
  obtain ⟨J1, rfl, hr⟩ := hw'
  have hnar : narrow FieldType.boolean (.int x) = .int x := by rcases zRx_b hr with rfl | rfl <;> rfl
  refine zGoto d_X10_readPart_10 (q := 19) (by decide) ?_
  refine zIret d_X10_readPart_19 rfl hnar rfl ?_
  exact ⟨_, rfl, _, rfl, hr⟩
theorem sp_part1 (hd : 1 ≤ d) {t : Nat} (ht : t < 5) (hp : zPc g l (d - 1) I L a b h m m_X10_readJoined [.ref 29, .int (nI t), .int o] f) : zPc g l d I L a b h m m_X10_readPart [.ref 29, .int (nI t), .int o] f := by
  intro J p c hJ hc hpm
  refine zSp_of (lv := [(0, .ref 29), (1, .int (nI t)), (2, .int o)]) k_X10_readPart rfl (Nat.le_of_ble_eq_true rfl) ?_
  refine zIloadN d_X10_readPart_0 rfl rfl (q := 1) rfl ?_
  refine zIconst d_X10_readPart_1 (v := 5) ic_5 (q := 2) rfl ?_
  refine zIcmp_lt d_X10_readPart_2 (tgt := 13) (q := 5) (by decide) rfl (fun h2 => ?_) (fun h => absurd ((nI_ltI (b := 5) (by omega) (by decide)).mpr ht) h)
  refine zAloadN d_X10_readPart_13 rfl rfl (q := 14) rfl ?_
  refine zIloadN d_X10_readPart_14 rfl rfl (q := 15) rfl ?_
  refine zIloadN d_X10_readPart_15 rfl rfl (q := 16) rfl ?_
  refine zCallVX d_X10_readPart_16 ml_X10_39 k_X10_readJoined ki_X10_readJoined ks_X10_readJoined (hp J p c hJ hc hpm) rfl rfl sh_29 (by decide) rfl (by decide) (Nat.le_of_ble_eq_true rfl) (by decide) (by omega) zns100 (q := 19) rfl (fun x w' hw' => ?_)
  obtain ⟨J1, rfl, hr⟩ := hw'
  have hnar : narrow FieldType.boolean (.int x) = .int x := by rcases zRx_b hr with rfl | rfl <;> rfl
  refine zIret d_X10_readPart_19 rfl hnar rfl ?_
  exact ⟨_, rfl, _, rfl, hr⟩
theorem sp_levels (h1 : I 29 1 = nI m) (hm : m ≤ 120) (hw : zLwf h) (hh : 54 ≤ h) (hg : zGd m f) {D : Nat} (hop : ∀ d, D ≤ d → zPc g l d I L a b h m m_X10_readOperand [.ref 29, .int o] f) :
    ∀ j, j ≤ 4 → ∀ d, D + 2 * j + 2 ≤ d → zPc g l d I L a b h m m_X10_readPart [.ref 29, .int (nI (5 - j)), .int o] (zLev f (I 30) m j) := by
  intro j
  induction j with
  | zero => intro _ d hd; exact sp_part0 (by omega) (hop (d - 1) (by omega))
  | succ j ih =>
    intro hj d hd
    refine sp_part1 (d := d) (by omega) (by omega) ?_
    have ej : 5 - (j + 1) = 4 - j := by omega
    rw [ej]
    exact sp_X10_readJoined (d := d - 1) (t := 4 - j) (n := if j = 2 then 1 else 120) (by omega) h1 hm hw hh (zLev_gd hg j (by omega)) (by omega) (by split <;> split <;> omega) (by rw [show 4 - j + 1 = 5 - j by omega]; exact ih (by omega) (d - 1 - 1) (by omega))
theorem sp_loose (h1 : I 29 1 = nI m) (hm : m ≤ 120) (hw : zLwf h) (hh : 54 ≤ h) (hg : zGd m f) {D : Nat} (hop : ∀ d, D ≤ d → zPc g l d I L a b h m m_X10_readOperand [.ref 29, .int o] f) (hd : D + 11 ≤ d) :
    zPc g l d I L a b h m m_X10_readJoined [.ref 29, .int (nI 0), .int o] (zLev f (I 30) m 5) :=
  sp_X10_readJoined (d := d) (t := 0) (n := 120) (by omega) h1 hm hw hh (zLev_gd hg 4 (by omega)) (by omega) rfl (sp_levels h1 hm hw hh hg hop 4 (by omega) (d - 1) (by omega))
theorem sp_X10_readBracketed (h1 : I 29 1 = nI m) (hm : m ≤ 120) (hw : zLwf h) (hh : 54 ≤ h) (hg : zGd m f) {D : Nat} (hop : ∀ d, D ≤ d → zPc g l d I L a b h m m_X10_readOperand [.ref 29, .int o] f) (hd : D + 12 ≤ d)
    {J : Nat → Nat → Int32} {p : Nat} {c : List zSt1} (hJ : zTp I J h (p + 1) c) (hc : c.length ≤ p + 1) (hpm : p + 1 ≤ m) : zSp g l d 100 m_X10_readBracketed [.ref 29, .int o] (zU J L (a, b, some h)) (zX (fun x w => ∃ J', w = zU J' L (a, b, some h) ∧ zRx I h c (zOpB f (I 30) m p) x J')) := by
  refine zSp_of (lv := [(0, .ref 29), (1, .int o)]) k_X10_readBracketed rfl (Nat.le_of_ble_eq_true rfl) ?_
  refine zAloadN d_X10_readBracketed_0 rfl rfl (q := 1) rfl ?_
  refine zIconst d_X10_readBracketed_1 (v := 0) ic_0 (q := 2) rfl ?_
  refine zIloadN d_X10_readBracketed_2 rfl rfl (q := 3) rfl ?_
  refine zCallVX d_X10_readBracketed_3 ml_X10_39 k_X10_readJoined ki_X10_readJoined ks_X10_readJoined (sp_loose (d := d - 1) h1 hm hw hh hg hop (by omega) J (p + 1) c hJ hc hpm) rfl rfl sh_29 (by decide) rfl (by decide) (Nat.le_of_ble_eq_true rfl) (by decide) (by omega) zns100 (q := 6) rfl (fun x w' hw' => ?_)
  obtain ⟨J1, rfl, hr⟩ := hw'
  refine zIf_eq d_X10_readBracketed_6 (tgt := 18) (q := 9) (by decide) rfl (fun h6 => ?_) (fun h6 => ?_)
  · obtain ⟨hf, c', hJ1⟩ := zRx_0 hr h6
    have e5 : zOpB f (I 30) m p = ((zLev f (I 30) m 5 (p + 1)).1, none) := by unfold zOpB; rw [hf]
    refine zIconst d_X10_readBracketed_18 (v := 0) ic_0 (q := 19) rfl ?_
    refine zIret d_X10_readBracketed_19 rfl rfl rfl ?_
    exact ⟨_, rfl, _, rfl, zRx_n e5 rfl hJ1⟩
  · obtain ⟨c1, hf, hJ1⟩ := zRx_1 hr h6
    obtain ⟨g1, g2, g3⟩ := zLev_gd (T := I 30) hg 5 (by omega) (p + 1) hpm
    have c' : List zSt1 := []
    refine zAloadN d_X10_readBracketed_9 rfl rfl (q := 10) rfl ?_
    refine zCallVP d_X10_readBracketed_10 ml_X10_35 k_X10_here ki_X10_here ks_X10_here (sp_hereT (d := d - 1) (h := h) (by omega) h1 hm hh hJ1 g1) rfl rfl sh_29 (by decide) rfl (by decide) (Nat.le_of_ble_eq_true rfl) (by decide) (by omega) zns100 (q := 13) rfl ?_
    refine zBipush d_X10_readBracketed_13 (v := 41) bc_41 (q := 15) rfl ?_
    refine zIcmp_eq d_X10_readBracketed_15 (tgt := 20) (q := 18) (by decide) rfl (fun h15 => ?_) (fun h15 => ?_)
    · have e41 := h15
      have e5 : zOpB f (I 30) m p = ((zLev f (I 30) m 5 (p + 1)).1 + 1, some c1) := by unfold zOpB; rw [hf]; exact if_pos e41
      refine zAloadN d_X10_readBracketed_20 rfl rfl (q := 21) rfl ?_
      refine zDup d_X10_readBracketed_21 rfl (q := 22) rfl ?_
      refine zGetI d_X10_readBracketed_22 ff_X10_28 sh_29 (by decide) (q := 25) rfl ?_
      refine zIconst d_X10_readBracketed_25 (v := 1) ic_1 (q := 26) rfl ?_
      refine zIadd d_X10_readBracketed_26 (q := 27) rfl ?_
      rw [hJ1.2.2.1, nI_1]
      refine zPutI d_X10_readBracketed_27 ff_X10_28 rfl rfl rfl sh_29 (by decide) (q := 30) rfl ?_
      refine zIconst d_X10_readBracketed_30 (v := 1) ic_1 (q := 31) rfl ?_
      refine zIret d_X10_readBracketed_31 rfl rfl rfl ?_
      exact ⟨_, rfl, _, rfl, zRx_s e5 rfl (zTp_go hh hJ1)⟩
    · have e5 : zOpB f (I 30) m p = ((zLev f (I 30) m 5 (p + 1)).1, none) := by unfold zOpB; rw [hf]; exact if_neg (fun e => h15 e)
      refine zIconst d_X10_readBracketed_18 (v := 0) ic_0 (q := 19) rfl ?_
      refine zIret d_X10_readBracketed_19 rfl rfl rfl ?_
      exact ⟨_, rfl, _, rfl, zRx_n e5 rfl hJ1⟩
theorem sp_X10_readTurned {s : Int32} (h1 : I 29 1 = nI m) (hm : m ≤ 120) (hw : zLwf h) (hh : 54 ≤ h) (hg : zGd m f) (hs : s = 33 ∨ s = 45) {D : Nat} (hop : ∀ d, D ≤ d → zPc g l d I L a b h m m_X10_readOperand [.ref 29, .int o] f) (hd : D + 2 ≤ d)
    {J : Nat → Nat → Int32} {p : Nat} {c : List zSt1} (hJ : zTp I J h (p + 1) c) (hc : c.length ≤ p + 1) (hpm : p + 1 ≤ m) : zSp g l d 100 m_X10_readTurned [.ref 29, .int s, .int o] (zU J L (a, b, some h)) (zX (fun x w => ∃ J', w = zU J' L (a, b, some h) ∧ zRx I h c (zOpT f s p) x J')) := by
  refine zSp_of (lv := [(0, .ref 29), (1, .int s), (2, .int o)]) k_X10_readTurned rfl (Nat.le_of_ble_eq_true rfl) ?_
  refine zAloadN d_X10_readTurned_0 rfl rfl (q := 1) rfl ?_
  refine zIloadN d_X10_readTurned_1 rfl rfl (q := 2) rfl ?_
  refine zCallVX d_X10_readTurned_2 ml_X10_61 k_X10_readOperand ki_X10_readOperand ks_X10_readOperand (hop (d - 1) (by omega) J (p + 1) c hJ hc hpm) rfl rfl sh_29 (by decide) rfl (by decide) (Nat.le_of_ble_eq_true rfl) (by decide) (by omega) zns100 (q := 5) rfl (fun x w' hw' => ?_)
  obtain ⟨J1, rfl, hr⟩ := hw'
  refine zIf_ne d_X10_readTurned_5 (tgt := 10) (q := 8) (by decide) rfl (fun h5 => ?_) (fun h5 => ?_)
  · obtain ⟨c1, hf, hJ1⟩ := zRx_1 hr h5
    obtain ⟨g1, g2, g3⟩ := hg (p + 1) hpm
    obtain ⟨g4, g5, _⟩ := g3 c1 hf
    have e5 : zOpT f s p = ((f (p + 1)).1, some (c1 ++ [(if s = 33 then 4 else 5, 0)])) := by unfold zOpT; rw [hf]
    have el : (c ++ c1).length ≤ (f (p + 1)).1 := by rw [List.length_append]; omega
    refine zAloadN d_X10_readTurned_10 rfl rfl (q := 11) rfl ?_
    refine zGetR d_X10_readTurned_11 ff_X10_24 sh_29 (by decide) r_into (q := 14) rfl ?_
    refine zIloadN d_X10_readTurned_14 rfl rfl (q := 15) rfl ?_
    refine zBipush d_X10_readTurned_15 (v := 33) bc_33 (q := 17) rfl ?_
    refine zIcmp_ne d_X10_readTurned_17 (tgt := 24) (q := 20) (by decide) rfl (fun h17 => ?_) (fun h17 => ?_)
    · rw [if_neg h17] at e5
      refine zIconst d_X10_readTurned_24 (v := 5) ic_5 (q := 25) rfl ?_
      refine zIconst d_X10_readTurned_25 (v := 0) ic_0 (q := 26) rfl ?_
      refine zCallVV d_X10_readTurned_26 ml_X10_46 k_X6_add ki_X6_add ks_X6_add (sp_X6_add (d := d - 1) (by omega) hw hJ1.2.2.2.1 (by omega)) rfl rfl hw.1 (by decide) rfl (zlt4 hw) (Nat.le_of_ble_eq_true rfl) (by decide) (by omega) zns100 (q := 29) rfl (fun w' hw' => ?_)
      subst hw'
      refine zIconst d_X10_readTurned_29 (v := 1) ic_1 (q := 30) rfl ?_
      refine zIret d_X10_readTurned_30 rfl rfl rfl ?_
      exact ⟨_, rfl, _, rfl, zRx_s e5 rfl (by rw [← List.append_assoc]; exact zTp_add hh hJ1)⟩
    · rw [if_pos (h17)] at e5
      refine zIconst d_X10_readTurned_20 (v := 4) ic_4 (q := 21) rfl ?_
      refine zGoto d_X10_readTurned_21 (q := 25) (by decide) ?_
      refine zIconst d_X10_readTurned_25 (v := 0) ic_0 (q := 26) rfl ?_
      refine zCallVV d_X10_readTurned_26 ml_X10_46 k_X6_add ki_X6_add ks_X6_add (sp_X6_add (d := d - 1) (by omega) hw hJ1.2.2.2.1 (by omega)) rfl rfl hw.1 (by decide) rfl (zlt4 hw) (Nat.le_of_ble_eq_true rfl) (by decide) (by omega) zns100 (q := 29) rfl (fun w' hw' => ?_)
      subst hw'
      refine zIconst d_X10_readTurned_29 (v := 1) ic_1 (q := 30) rfl ?_
      refine zIret d_X10_readTurned_30 rfl rfl rfl ?_
      exact ⟨_, rfl, _, rfl, zRx_s e5 rfl (by rw [← List.append_assoc]; exact zTp_add hh hJ1)⟩
  · obtain ⟨hf, c', hJ1⟩ := zRx_0 hr (by simpa using h5)
    have e5 : zOpT f s p = ((f (p + 1)).1, none) := by unfold zOpT; rw [hf]
    refine zIconst d_X10_readTurned_8 (v := 0) ic_0 (q := 9) rfl ?_
    refine zIret d_X10_readTurned_9 rfl rfl rfl ?_
    exact ⟨_, rfl, _, rfl, zRx_n e5 rfl hJ1⟩
end S25

