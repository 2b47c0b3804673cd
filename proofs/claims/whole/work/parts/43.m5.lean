theorem d_X12_mend_0 : decode (zmc m_X12_mend) 0 = .ok (.aload_n 0, 1) := by decide +kernel
theorem d_X12_mend_1 : decode (zmc m_X12_mend) 1 = .ok (.iload_n 1, 1) := by decide +kernel
theorem d_X12_mend_2 : decode (zmc m_X12_mend) 2 = .ok (.iload_n 2, 1) := by decide +kernel
theorem d_X12_mend_3 : decode (zmc m_X12_mend) 3 = .ok (.invokevirtual 178, 3) := by decide +kernel
theorem d_X12_mend_6 : decode (zmc m_X12_mend) 6 = .ok (.ifCond .eq 23, 3) := by decide +kernel
theorem d_X12_mend_9 : decode (zmc m_X12_mend) 9 = .ok (.aload_n 0, 1) := by decide +kernel
theorem d_X12_mend_10 : decode (zmc m_X12_mend) 10 = .ok (.iload_n 1, 1) := by decide +kernel
theorem d_X12_mend_11 : decode (zmc m_X12_mend) 11 = .ok (.iload_n 2, 1) := by decide +kernel
theorem d_X12_mend_12 : decode (zmc m_X12_mend) 12 = .ok (.iload_n 3, 1) := by decide +kernel
theorem d_X12_mend_13 : decode (zmc m_X12_mend) 13 = .ok (.invokevirtual 181, 3) := by decide +kernel
theorem d_X12_mend_16 : decode (zmc m_X12_mend) 16 = .ok (.ifCond .eq 13, 3) := by decide +kernel
theorem d_X12_mend_19 : decode (zmc m_X12_mend) 19 = .ok (.aload_n 0, 1) := by decide +kernel
theorem d_X12_mend_20 : decode (zmc m_X12_mend) 20 = .ok (.iload_n 2, 1) := by decide +kernel
theorem d_X12_mend_21 : decode (zmc m_X12_mend) 21 = .ok (.iload_n 1, 1) := by decide +kernel
theorem d_X12_mend_22 : decode (zmc m_X12_mend) 22 = .ok (.iload_n 3, 1) := by decide +kernel
theorem d_X12_mend_23 : decode (zmc m_X12_mend) 23 = .ok (.invokevirtual 184, 3) := by decide +kernel
theorem d_X12_mend_26 : decode (zmc m_X12_mend) 26 = .ok (.goto 5, 3) := by decide +kernel
theorem d_X12_mend_29 : decode (zmc m_X12_mend) 29 = .ok (.ldc 187, 2) := by decide +kernel
theorem d_X12_mend_31 : decode (zmc m_X12_mend) 31 = .ok (.ireturn, 1) := by decide +kernel
theorem d_X12_of_0 : decode (zmc m_X12_of) 0 = .ok (.iload_n 2, 1) := by decide +kernel
theorem d_X12_of_1 : decode (zmc m_X12_of) 1 = .ok (.bipush 12, 2) := by decide +kernel
theorem d_X12_of_3 : decode (zmc m_X12_of) 3 = .ok (.if_icmp .ne 21, 3) := by decide +kernel
theorem d_X12_of_6 : decode (zmc m_X12_of) 6 = .ok (.iload_n 1, 1) := by decide +kernel
theorem d_X12_of_7 : decode (zmc m_X12_of) 7 = .ok (.invokestatic 145, 3) := by decide +kernel
theorem d_X12_of_10 : decode (zmc m_X12_of) 10 = .ok (.ifCond .eq 11, 3) := by decide +kernel
theorem d_X12_of_13 : decode (zmc m_X12_of) 13 = .ok (.aload_n 0, 1) := by decide +kernel
theorem d_X12_of_14 : decode (zmc m_X12_of) 14 = .ok (.iload_n 1, 1) := by decide +kernel
theorem d_X12_of_15 : decode (zmc m_X12_of) 15 = .ok (.invokevirtual 141, 3) := by decide +kernel
theorem d_X12_of_18 : decode (zmc m_X12_of) 18 = .ok (.goto 5, 3) := by decide +kernel
theorem d_X12_of_21 : decode (zmc m_X12_of) 21 = .ok (.ldc 187, 2) := by decide +kernel
theorem d_X12_of_23 : decode (zmc m_X12_of) 23 = .ok (.ireturn, 1) := by decide +kernel
theorem d_X12_of_24 : decode (zmc m_X12_of) 24 = .ok (.aload_n 0, 1) := by decide +kernel
theorem d_X12_of_25 : decode (zmc m_X12_of) 25 = .ok (.iload_n 1, 1) := by decide +kernel
theorem d_X12_of_26 : decode (zmc m_X12_of) 26 = .ok (.iload_n 2, 1) := by decide +kernel
theorem d_X12_of_27 : decode (zmc m_X12_of) 27 = .ok (.invokevirtual 178, 3) := by decide +kernel
theorem d_X12_of_30 : decode (zmc m_X12_of) 30 = .ok (.ifCond .eq 12, 3) := by decide +kernel
theorem d_X12_of_33 : decode (zmc m_X12_of) 33 = .ok (.aload_n 0, 1) := by decide +kernel
theorem d_X12_of_34 : decode (zmc m_X12_of) 34 = .ok (.iload_n 2, 1) := by decide +kernel
theorem d_X12_of_35 : decode (zmc m_X12_of) 35 = .ok (.iload_n 1, 1) := by decide +kernel
theorem d_X12_of_36 : decode (zmc m_X12_of) 36 = .ok (.invokevirtual 164, 3) := by decide +kernel
theorem d_X12_of_39 : decode (zmc m_X12_of) 39 = .ok (.goto 5, 3) := by decide +kernel
theorem d_X12_of_42 : decode (zmc m_X12_of) 42 = .ok (.ldc 187, 2) := by decide +kernel
theorem d_X12_of_44 : decode (zmc m_X12_of) 44 = .ok (.ireturn, 1) := by decide +kernel
theorem d_X12_redo_0 : decode (zmc m_X12_redo) 0 = .ok (.aload_n 0, 1) := by decide +kernel
theorem d_X12_redo_1 : decode (zmc m_X12_redo) 1 = .ok (.getfield 168, 3) := by decide +kernel
theorem d_X12_redo_4 : decode (zmc m_X12_redo) 4 = .ok (.ifCond .ne 6, 3) := by decide +kernel
theorem d_X12_redo_7 : decode (zmc m_X12_redo) 7 = .ok (.bipush (-5), 2) := by decide +kernel
theorem d_X12_redo_9 : decode (zmc m_X12_redo) 9 = .ok (.ireturn, 1) := by decide +kernel
theorem d_X12_redo_10 : decode (zmc m_X12_redo) 10 = .ok (.aload_n 0, 1) := by decide +kernel
theorem d_X12_redo_11 : decode (zmc m_X12_redo) 11 = .ok (.aload_n 0, 1) := by decide +kernel
theorem d_X12_redo_12 : decode (zmc m_X12_redo) 12 = .ok (.getfield 42, 3) := by decide +kernel
theorem d_X12_redo_15 : decode (zmc m_X12_redo) 15 = .ok (.aload_n 0, 1) := by decide +kernel
theorem d_X12_redo_16 : decode (zmc m_X12_redo) 16 = .ok (.getfield 171, 3) := by decide +kernel
theorem d_X12_redo_19 : decode (zmc m_X12_redo) 19 = .ok (.iaload, 1) := by decide +kernel
theorem d_X12_redo_20 : decode (zmc m_X12_redo) 20 = .ok (.aload_n 0, 1) := by decide +kernel
theorem d_X12_redo_21 : decode (zmc m_X12_redo) 21 = .ok (.getfield 45, 3) := by decide +kernel
theorem d_X12_redo_24 : decode (zmc m_X12_redo) 24 = .ok (.aload_n 0, 1) := by decide +kernel
theorem d_X12_redo_25 : decode (zmc m_X12_redo) 25 = .ok (.getfield 171, 3) := by decide +kernel
theorem d_X12_redo_28 : decode (zmc m_X12_redo) 28 = .ok (.iaload, 1) := by decide +kernel
theorem d_X12_redo_29 : decode (zmc m_X12_redo) 29 = .ok (.aload_n 0, 1) := by decide +kernel
theorem d_X12_redo_30 : decode (zmc m_X12_redo) 30 = .ok (.getfield 51, 3) := by decide +kernel
theorem d_X12_redo_33 : decode (zmc m_X12_redo) 33 = .ok (.aload_n 0, 1) := by decide +kernel
theorem d_X12_redo_34 : decode (zmc m_X12_redo) 34 = .ok (.getfield 171, 3) := by decide +kernel
theorem d_X12_redo_37 : decode (zmc m_X12_redo) 37 = .ok (.iaload, 1) := by decide +kernel
theorem d_X12_redo_38 : decode (zmc m_X12_redo) 38 = .ok (.invokevirtual 174, 3) := by decide +kernel
theorem d_X12_redo_41 : decode (zmc m_X12_redo) 41 = .ok (.aload_n 0, 1) := by decide +kernel
theorem d_X12_redo_42 : decode (zmc m_X12_redo) 42 = .ok (.dup, 1) := by decide +kernel
theorem d_X12_redo_43 : decode (zmc m_X12_redo) 43 = .ok (.getfield 171, 3) := by decide +kernel
theorem d_X12_redo_46 : decode (zmc m_X12_redo) 46 = .ok (.iconst 1, 1) := by decide +kernel
theorem d_X12_redo_47 : decode (zmc m_X12_redo) 47 = .ok (.iadd, 1) := by decide +kernel
theorem d_X12_redo_48 : decode (zmc m_X12_redo) 48 = .ok (.putfield 171, 3) := by decide +kernel
theorem d_X12_redo_51 : decode (zmc m_X12_redo) 51 = .ok (.aload_n 0, 1) := by decide +kernel
theorem d_X12_redo_52 : decode (zmc m_X12_redo) 52 = .ok (.dup, 1) := by decide +kernel
theorem d_X12_redo_53 : decode (zmc m_X12_redo) 53 = .ok (.getfield 168, 3) := by decide +kernel
theorem d_X12_redo_56 : decode (zmc m_X12_redo) 56 = .ok (.iconst 1, 1) := by decide +kernel
theorem d_X12_redo_57 : decode (zmc m_X12_redo) 57 = .ok (.isub, 1) := by decide +kernel
theorem d_X12_redo_58 : decode (zmc m_X12_redo) 58 = .ok (.putfield 168, 3) := by decide +kernel
theorem d_X12_redo_61 : decode (zmc m_X12_redo) 61 = .ok (.aload_n 0, 1) := by decide +kernel
theorem d_X12_redo_62 : decode (zmc m_X12_redo) 62 = .ok (.getfield 168, 3) := by decide +kernel
theorem d_X12_redo_65 : decode (zmc m_X12_redo) 65 = .ok (.ireturn, 1) := by decide +kernel
theorem d_X12_undo_0 : decode (zmc m_X12_undo) 0 = .ok (.aload_n 0, 1) := by decide +kernel
theorem d_X12_undo_1 : decode (zmc m_X12_undo) 1 = .ok (.getfield 171, 3) := by decide +kernel
theorem d_X12_undo_4 : decode (zmc m_X12_undo) 4 = .ok (.ifCond .ne 6, 3) := by decide +kernel
theorem d_X12_undo_7 : decode (zmc m_X12_undo) 7 = .ok (.bipush (-5), 2) := by decide +kernel
theorem d_X12_undo_9 : decode (zmc m_X12_undo) 9 = .ok (.ireturn, 1) := by decide +kernel
theorem d_X12_undo_10 : decode (zmc m_X12_undo) 10 = .ok (.aload_n 0, 1) := by decide +kernel
theorem d_X12_undo_11 : decode (zmc m_X12_undo) 11 = .ok (.dup, 1) := by decide +kernel
theorem d_X12_undo_12 : decode (zmc m_X12_undo) 12 = .ok (.getfield 171, 3) := by decide +kernel
theorem d_X12_undo_15 : decode (zmc m_X12_undo) 15 = .ok (.iconst 1, 1) := by decide +kernel
theorem d_X12_undo_16 : decode (zmc m_X12_undo) 16 = .ok (.isub, 1) := by decide +kernel
theorem d_X12_undo_17 : decode (zmc m_X12_undo) 17 = .ok (.putfield 171, 3) := by decide +kernel
theorem d_X12_undo_20 : decode (zmc m_X12_undo) 20 = .ok (.aload_n 0, 1) := by decide +kernel
theorem d_X12_undo_21 : decode (zmc m_X12_undo) 21 = .ok (.dup, 1) := by decide +kernel
theorem d_X12_undo_22 : decode (zmc m_X12_undo) 22 = .ok (.getfield 168, 3) := by decide +kernel
theorem d_X12_undo_25 : decode (zmc m_X12_undo) 25 = .ok (.iconst 1, 1) := by decide +kernel
theorem d_X12_undo_26 : decode (zmc m_X12_undo) 26 = .ok (.iadd, 1) := by decide +kernel
theorem d_X12_undo_27 : decode (zmc m_X12_undo) 27 = .ok (.putfield 168, 3) := by decide +kernel
theorem d_X12_undo_30 : decode (zmc m_X12_undo) 30 = .ok (.aload_n 0, 1) := by decide +kernel
theorem d_X12_undo_31 : decode (zmc m_X12_undo) 31 = .ok (.aload_n 0, 1) := by decide +kernel
theorem d_X12_undo_32 : decode (zmc m_X12_undo) 32 = .ok (.getfield 42, 3) := by decide +kernel
theorem d_X12_undo_35 : decode (zmc m_X12_undo) 35 = .ok (.aload_n 0, 1) := by decide +kernel
theorem d_X12_undo_36 : decode (zmc m_X12_undo) 36 = .ok (.getfield 171, 3) := by decide +kernel
theorem d_X12_undo_39 : decode (zmc m_X12_undo) 39 = .ok (.iaload, 1) := by decide +kernel
theorem d_X12_undo_40 : decode (zmc m_X12_undo) 40 = .ok (.aload_n 0, 1) := by decide +kernel
theorem d_X12_undo_41 : decode (zmc m_X12_undo) 41 = .ok (.getfield 45, 3) := by decide +kernel
theorem d_X12_undo_44 : decode (zmc m_X12_undo) 44 = .ok (.aload_n 0, 1) := by decide +kernel
theorem d_X12_undo_45 : decode (zmc m_X12_undo) 45 = .ok (.getfield 171, 3) := by decide +kernel
theorem d_X12_undo_48 : decode (zmc m_X12_undo) 48 = .ok (.iaload, 1) := by decide +kernel
theorem d_X12_undo_49 : decode (zmc m_X12_undo) 49 = .ok (.aload_n 0, 1) := by decide +kernel
theorem d_X12_undo_50 : decode (zmc m_X12_undo) 50 = .ok (.getfield 48, 3) := by decide +kernel
theorem d_X12_undo_53 : decode (zmc m_X12_undo) 53 = .ok (.aload_n 0, 1) := by decide +kernel
theorem d_X12_undo_54 : decode (zmc m_X12_undo) 54 = .ok (.getfield 171, 3) := by decide +kernel
theorem d_X12_undo_57 : decode (zmc m_X12_undo) 57 = .ok (.iaload, 1) := by decide +kernel
theorem d_X12_undo_58 : decode (zmc m_X12_undo) 58 = .ok (.invokevirtual 174, 3) := by decide +kernel
theorem d_X12_undo_61 : decode (zmc m_X12_undo) 61 = .ok (.aload_n 0, 1) := by decide +kernel
theorem d_X12_undo_62 : decode (zmc m_X12_undo) 62 = .ok (.getfield 171, 3) := by decide +kernel
theorem d_X12_undo_65 : decode (zmc m_X12_undo) 65 = .ok (.ireturn, 1) := by decide +kernel
/-! THE REFERENCE: mend, of, undo, redo -/
section S43
variable {g : zG} {l : Launch} {d : Nat} {I V : Nat → Nat → Int32} {L K : Nat → Nat → Int64} {fs : Nat × Nat × Option Nat} {ns nt nh : Nat} {pg : Option (List zLine)}
theorem sp_X12_of (hd : 4 ≤ d) (hM : zMs I V) (hK : zSky V ns nt nh) {k what : Int32} : zPure g l d m_X12_of [.ref 64, .int k, .int what] I L fs (.int (if what = 12 then (if zMay 0 k then zfind (V 3) k ns 0 else -2000000000) else if 0 ≤ k ∧ k < nI (zHold ns nt nh what) then zGet V ns nt nh what k else -2000000000)) := by
  obtain ⟨-, hns, hnt, hnh⟩ := id hK
  refine zSp_of (lv := [(0, .ref 64), (1, .int k), (2, .int what)]) k_X12_of rfl (Nat.le_of_ble_eq_true rfl) ?_
  refine zIloadN d_X12_of_0 rfl rfl (q := 1) rfl ?_
  refine zBipush d_X12_of_1 (v := 12) bc_12 (q := 3) rfl ?_
  refine zIcmp_ne d_X12_of_3 (tgt := 24) (q := 6) (by decide) rfl (fun h3 => ?_) (fun h3 => ?_)
  · refine zAloadN d_X12_of_24 rfl rfl (q := 25) rfl ?_
    refine zIloadN d_X12_of_25 rfl rfl (q := 26) rfl ?_
    refine zIloadN d_X12_of_26 rfl rfl (q := 27) rfl ?_
    refine zCallVP d_X12_of_27 ml_X12_178 k_X12_isPlace ki_X12_isPlace ks_X12_isPlace (sp_X12_isPlace (d := d - 1) (by omega) hM hK) rfl rfl sh_64 (by decide) rfl (by decide) (Nat.le_of_ble_eq_true rfl) (by decide) (by omega) zns100 (q := 30) rfl ?_
    refine zIf_eq d_X12_of_30 (tgt := 42) (q := 33) (by decide) rfl (fun h30 => ?_) (fun h30 => ?_)
    · have c := bi_0.mp h30
      refine zLdc d_X12_of_42 co_X12_187 (q := 44) rfl ?_
      refine zIret d_X12_of_44 rfl rfl rfl ?_
      rw [if_neg h3]
      first | exact zPi (by rw [if_neg c]) | exact zPi (by rw [if_pos c, zGet_at hns hnt hnh hj hqh])
    · have c := bi_n0.mp h30
      obtain ⟨j, q, hj, hq, hqh, rfl, rfl⟩ := zHold_in hns hnt hnh c
      refine zAloadN d_X12_of_33 rfl rfl (q := 34) rfl ?_
      refine zIloadN d_X12_of_34 rfl rfl (q := 35) rfl ?_
      refine zIloadN d_X12_of_35 rfl rfl (q := 36) rfl ?_
      refine zCallVP d_X12_of_36 ml_X12_164 k_X12_valueAt ki_X12_valueAt ks_X12_valueAt (sp_X12_valueAt (d := d - 1) (by omega) hM hK hj hqh) rfl rfl sh_64 (by decide) rfl (by decide) (Nat.le_of_ble_eq_true rfl) (by decide) (by omega) zns100 (q := 39) rfl ?_
      refine zGoto d_X12_of_39 (q := 44) (by decide) ?_
      refine zIret d_X12_of_44 rfl rfl rfl ?_
      rw [if_neg h3]
      first | exact zPi (by rw [if_neg c]) | exact zPi (by rw [if_pos c, zGet_at hns hnt hnh hj hqh])
  · refine zIloadN d_X12_of_6 rfl rfl (q := 7) rfl ?_
    refine zCallSP d_X12_of_7 ml_X12_145 k_X12_isCell kt_X12_isCell (sp_X12_isCell (d := d - 1) (by omega) ) rfl rfl (Nat.le_of_ble_eq_true rfl) (by decide) (by omega) zns100 (q := 10) rfl ?_
    refine zIf_eq d_X12_of_10 (tgt := 21) (q := 13) (by decide) rfl (fun h10 => ?_) (fun h10 => ?_)
    · refine zLdc d_X12_of_21 co_X12_187 (q := 23) rfl ?_
      refine zIret d_X12_of_23 rfl rfl rfl ?_
      rw [if_pos h3]
      first | exact zPi (if_neg (bi_0.mp h10)).symm | exact zPi (if_pos (bi_n0.mp h10)).symm
    · refine zAloadN d_X12_of_13 rfl rfl (q := 14) rfl ?_
      refine zIloadN d_X12_of_14 rfl rfl (q := 15) rfl ?_
      refine zCallVP d_X12_of_15 ml_X12_141 k_X12_starIn ki_X12_starIn ks_X12_starIn (sp_X12_starIn (d := d - 1) (by omega) hM hK) rfl rfl sh_64 (by decide) rfl (by decide) (Nat.le_of_ble_eq_true rfl) (by decide) (by omega) zns100 (q := 18) rfl ?_
      refine zGoto d_X12_of_18 (q := 23) (by decide) ?_
      refine zIret d_X12_of_23 rfl rfl rfl ?_
      rw [if_pos h3]
      first | exact zPi (if_neg (bi_0.mp h10)).symm | exact zPi (if_pos (bi_n0.mp h10)).symm
theorem sp_X12_mend (hd : 5 ≤ d) (hD : zMd I L V K pg) (hK : zSky V ns nt nh) {dn : Nat} (hdn : V 31 4 = nI dn) (h40 : dn ≤ 40) {k what v : Int32} : zSp g l d 100 m_X12_mend [.ref 64, .int k, .int what, .int v] (zU I L fs) (zX (fun x w =>
    (¬ ((0 ≤ k ∧ k < nI (zHold ns nt nh what)) ∧ zMay what v ∧ ¬ (what = 0 ∧ ¬ zfind (V 3) v ns 0 = -2 ∧ ¬ zfind (V 3) v ns 0 = k)) ∧ x = -2000000000 ∧ w = zU I L fs) ∨
    (((0 ≤ k ∧ k < nI (zHold ns nt nh what)) ∧ zMay what v ∧ ¬ (what = 0 ∧ ¬ zfind (V 3) v ns 0 = -2 ∧ ¬ zfind (V 3) v ns 0 = k)) ∧ x = zGet V ns nt nh what k ∧ (zGet V ns nt nh what k = v ∧ w = zU I L fs ∨ ¬ zGet V ns nt nh what k = v ∧ ∃ J, w = zU J L fs ∧ zFrm I J ∧ zMd J L (zChg (zSetI V ns nt nh what k v) dn what k (zGet V ns nt nh what k) v) K pg)))) := by
  obtain ⟨-, hns, hnt, hnh⟩ := id hK
  have hM := hD.1
  refine zSp_of (lv := [(0, .ref 64), (1, .int k), (2, .int what), (3, .int v)]) k_X12_mend rfl (Nat.le_of_ble_eq_true rfl) ?_
  refine zAloadN d_X12_mend_0 rfl rfl (q := 1) rfl ?_
  refine zIloadN d_X12_mend_1 rfl rfl (q := 2) rfl ?_
  refine zIloadN d_X12_mend_2 rfl rfl (q := 3) rfl ?_
  refine zCallVP d_X12_mend_3 ml_X12_178 k_X12_isPlace ki_X12_isPlace ks_X12_isPlace (sp_X12_isPlace (d := d - 1) (by omega) hM hK) rfl rfl sh_64 (by decide) rfl (by decide) (Nat.le_of_ble_eq_true rfl) (by decide) (by omega) zns100 (q := 6) rfl ?_
  refine zIf_eq d_X12_mend_6 (tgt := 29) (q := 9) (by decide) rfl (fun h6 => ?_) (fun h6 => ?_)
  · have c1 := bi_0.mp h6
    have hno : ¬ ((0 ≤ k ∧ k < nI (zHold ns nt nh what)) ∧ zMay what v ∧ ¬ (what = 0 ∧ ¬ zfind (V 3) v ns 0 = -2 ∧ ¬ zfind (V 3) v ns 0 = k)) := fun q => c1 q.1
    refine zLdc d_X12_mend_29 co_X12_187 (q := 31) rfl ?_
    refine zIret d_X12_mend_31 rfl rfl (by first | exact hn | rfl) ?_
    first
    | exact ⟨_, rfl, Or.inl ⟨hno, rfl, rfl⟩⟩
    | (obtain ⟨rfl, hw'⟩ := hw'
       rw [zGet_at hns hnt hnh hj hqh]
       have e : zLay V ns nt nh (nI j) (nI q) v = zSetI V ns nt nh (nI j) (nI q) v := if_neg c2.2
       rw [e] at hw'
       exact ⟨_, rfl, Or.inr ⟨⟨c1, c2⟩, rfl, hw'⟩⟩)
  · have c1 := bi_n0.mp h6
    obtain ⟨j, q, hj, hq, hqh, rfl, rfl⟩ := zHold_in hns hnt hnh c1
    refine zAloadN d_X12_mend_9 rfl rfl (q := 10) rfl ?_
    refine zIloadN d_X12_mend_10 rfl rfl (q := 11) rfl ?_
    refine zIloadN d_X12_mend_11 rfl rfl (q := 12) rfl ?_
    refine zIloadN d_X12_mend_12 rfl rfl (q := 13) rfl ?_
    refine zCallVP d_X12_mend_13 ml_X12_181 k_X12_mayHave ki_X12_mayHave ks_X12_mayHave (sp_X12_mayHave (d := d - 1) (by omega) hM hK hj) rfl rfl sh_64 (by decide) rfl (by decide) (Nat.le_of_ble_eq_true rfl) (by decide) (by omega) zns100 (q := 16) rfl ?_
    refine zIf_eq d_X12_mend_16 (tgt := 29) (q := 19) (by decide) rfl (fun h16 => ?_) (fun h16 => ?_)
    · have hno : ¬ ((0 ≤ nI q ∧ nI q < nI (zHold ns nt nh (nI j))) ∧ zMay (nI j) v ∧ ¬ (nI j = 0 ∧ ¬ zfind (V 3) v ns 0 = -2 ∧ ¬ zfind (V 3) v ns 0 = nI q)) := fun z => bi_0.mp h16 z.2
      refine zLdc d_X12_mend_29 co_X12_187 (q := 31) rfl ?_
      refine zIret d_X12_mend_31 rfl rfl (by first | exact hn | rfl) ?_
      first
      | exact ⟨_, rfl, Or.inl ⟨hno, rfl, rfl⟩⟩
      | (obtain ⟨rfl, hw'⟩ := hw'
         rw [zGet_at hns hnt hnh hj hqh]
         have e : zLay V ns nt nh (nI j) (nI q) v = zSetI V ns nt nh (nI j) (nI q) v := if_neg c2.2
         rw [e] at hw'
         exact ⟨_, rfl, Or.inr ⟨⟨c1, c2⟩, rfl, hw'⟩⟩)
    · have c2 := bi_n0.mp h16
      refine zAloadN d_X12_mend_19 rfl rfl (q := 20) rfl ?_
      refine zIloadN d_X12_mend_20 rfl rfl (q := 21) rfl ?_
      refine zIloadN d_X12_mend_21 rfl rfl (q := 22) rfl ?_
      refine zIloadN d_X12_mend_22 rfl rfl (q := 23) rfl ?_
      refine zCallVN d_X12_mend_23 ml_X12_184 k_X12_changes ki_X12_changes ks_X12_changes (sp_X12_changes (d := d - 1) (by omega) hD hK hdn h40 hj hqh) rfl rfl sh_64 (by decide) rfl (by decide) (Nat.le_of_ble_eq_true rfl) (by decide) (by omega) zns100 (q := 26) rfl (fun x w' hn hw' => ?_)
      refine zGoto d_X12_mend_26 (q := 31) (by decide) ?_
      refine zIret d_X12_mend_31 rfl rfl (by first | exact hn | rfl) ?_
      first
      | exact ⟨_, rfl, Or.inl ⟨hno, rfl, rfl⟩⟩
      | (obtain ⟨rfl, hw'⟩ := hw'
         rw [zGet_at hns hnt hnh hj hqh]
         have e : zLay V ns nt nh (nI j) (nI q) v = zSetI V ns nt nh (nI j) (nI q) v := if_neg c2.2
         rw [e] at hw'
         exact ⟨_, rfl, Or.inr ⟨⟨c1, c2⟩, rfl, hw'⟩⟩)
theorem zBc_at {V : Nat → Nat → Int32} {al i : Nat} (hB : zBc V ns nt nh al) (hi : i < al) : ∃ j k : Nat, j < 12 ∧ k < zHold ns nt nh (nI j) ∧ V 32 i = nI j ∧ V 33 i = nI k := by
  obtain ⟨j, k, h1, h2, h3, h4, -⟩ := hB i hi
  exact ⟨j, k, h1, h2, h3, h4⟩
theorem sp_X12_undo (hd : 4 ≤ d) (hD : zMd I L V K pg) (hK : zSky V ns nt nh) {dn al : Nat} (hdn : V 31 4 = nI dn) (hal : V 31 5 = nI al) (h40 : al ≤ 40) (hle : dn ≤ al) (hB : zBc V ns nt nh al) : zSp g l d 100 m_X12_undo [.ref 64] (zU I L fs) (zX (fun x w => (dn = 0 ∧ x = -5 ∧ w = zU I L fs) ∨ (0 < dn ∧ x = nI (dn - 1) ∧ ∃ J, w = zU J L fs ∧ zFrm I J ∧ zMd J L (zLay (zup V 31 (zup (V 31) 4 (nI (dn - 1)))) ns nt nh (V 32 (dn - 1)) (V 33 (dn - 1)) (V 34 (dn - 1))) K pg))) := by
  have hM := hD.1
  obtain ⟨c1, c2, c3, c4, c5, c6⟩ := id hD.2.2.1
  refine zSp_of (lv := [(0, .ref 64)]) k_X12_undo rfl (Nat.le_of_ble_eq_true rfl) ?_
  refine zAloadN d_X12_undo_0 rfl rfl (q := 1) rfl ?_
  refine zGetI d_X12_undo_1 ff_X12_171 sh_64 (by decide) (q := 4) rfl ?_
  refine zIf_ne d_X12_undo_4 (tgt := 10) (q := 7) (by decide) rfl (fun h4 => ?_) (fun h4 => ?_)
  · obtain ⟨n, rfl⟩ : ∃ n, dn = n + 1 := ⟨dn - 1, by have : dn ≠ 0 := fun e => h4 (c1.trans (hdn.trans (congrArg nI e))); omega⟩
    obtain ⟨j, k, hj, hk, e32, e33⟩ := zBc_at hB (i := n) (by omega)
    rw [Nat.add_sub_cancel]
    refine zAloadN d_X12_undo_10 rfl rfl (q := 11) rfl ?_
    refine zDup d_X12_undo_11 rfl (q := 12) rfl ?_
    refine zGetI d_X12_undo_12 ff_X12_171 sh_64 (by decide) (q := 15) rfl ?_
    refine zIconst d_X12_undo_15 (v := 1) ic_1 (q := 16) rfl ?_
    refine zIsub d_X12_undo_16 (q := 17) rfl ?_
    refine zPutI d_X12_undo_17 ff_X12_171 rfl rfl rfl sh_64 (by decide) (q := 20) rfl ?_
    refine zAloadN d_X12_undo_20 rfl rfl (q := 21) rfl ?_
    refine zDup d_X12_undo_21 rfl (q := 22) rfl ?_
    refine zGetI d_X12_undo_22 ff_X12_168 sh_64 (by decide) (q := 25) rfl ?_
    refine zIconst d_X12_undo_25 (v := 1) ic_1 (q := 26) rfl ?_
    refine zIadd d_X12_undo_26 (q := 27) rfl ?_
    refine zPutI d_X12_undo_27 ff_X12_168 rfl rfl rfl sh_64 (by decide) (q := 30) rfl ?_
    have e14 : I 64 14 - 1 = nI n := by rw [c1, hdn, nI_pred]
    have e15 : I 64 15 + 1 = V 31 5 - nI n := by rw [c2, hdn, hal, pk_sub hle, pk_sub (by omega), nI_1]; congr 1; omega
    obtain ⟨J1, hJ1⟩ : ∃ J1 : Nat → Nat → Int32, J1 = zup I 64 (zup (zup (I 64) 14 (nI n)) 15 (V 31 5 - nI n)) := ⟨_, rfl⟩
    have eX : zup (zup I 64 (zup (I 64) 14 (I 64 14 - 1))) 64 (zup ((zup I 64 (zup (I 64) 14 (I 64 14 - 1))) 64) 15 ((zup I 64 (zup (I 64) 14 (I 64 14 - 1))) 64 15 + 1)) = J1 := by rw [hJ1, zup_zup, zup_eq, e14, show (zup (I 64) 14 (nI n)) 15 + 1 = V 31 5 - nI n from e15]
    rw [eX]
    have j14 : J1 64 14 = nI n := by rw [hJ1]; rfl
    have j32 : J1 75 n = nI j := by rw [hJ1]; exact (congrFun c3 n).trans e32
    have j33 : J1 76 n = nI k := by rw [hJ1]; exact (congrFun c4 n).trans e33
    have j34 : J1 77 n = V 34 n := by rw [hJ1]; exact congrFun c5 n
    have hs : zMs J1 (zup V 31 (zup (V 31) 4 (nI n))) := by rw [hJ1]; exact zMs_ex (I := I) ⟨rfl, rfl, rfl⟩ (fun a ha => zup_ne (by omega)) (fun a ha => zup_ne (by omega)) hM
    refine zAloadN d_X12_undo_30 rfl rfl (q := 31) rfl ?_
    refine zAloadN d_X12_undo_31 rfl rfl (q := 32) rfl ?_
    refine zGetR d_X12_undo_32 ff_X12_42 sh_64 (by decide) r_64_16 (q := 35) rfl ?_
    refine zAloadN d_X12_undo_35 rfl rfl (q := 36) rfl ?_
    refine zGetI d_X12_undo_36 ff_X12_171 sh_64 (by decide) (q := 39) rfl ?_
    refine zIald d_X12_undo_39 sh_75 (by decide) j14 (by omega) (q := 40) rfl ?_
    refine zAloadN d_X12_undo_40 rfl rfl (q := 41) rfl ?_
    refine zGetR d_X12_undo_41 ff_X12_45 sh_64 (by decide) r_64_17 (q := 44) rfl ?_
    refine zAloadN d_X12_undo_44 rfl rfl (q := 45) rfl ?_
    refine zGetI d_X12_undo_45 ff_X12_171 sh_64 (by decide) (q := 48) rfl ?_
    refine zIald d_X12_undo_48 sh_76 (by decide) j14 (by omega) (q := 49) rfl ?_
    refine zAloadN d_X12_undo_49 rfl rfl (q := 50) rfl ?_
    refine zGetR d_X12_undo_50 ff_X12_48 sh_64 (by decide) r_64_18 (q := 53) rfl ?_
    refine zAloadN d_X12_undo_53 rfl rfl (q := 54) rfl ?_
    refine zGetI d_X12_undo_54 ff_X12_171 sh_64 (by decide) (q := 57) rfl ?_
    refine zIald d_X12_undo_57 sh_77 (by decide) j14 (by omega) (q := 58) rfl ?_
    rw [j32, j33, j34]
    refine zCallVV d_X12_undo_58 ml_X12_174 k_X12_lays ki_X12_lays ks_X12_lays (sp_X12_lays (d := d - 1) (by omega) hs (zSky_up hK (by decide)) hj hk) rfl rfl sh_64 (by decide) rfl (by decide) (Nat.le_of_ble_eq_true rfl) (by decide) (by omega) zns100 (q := 61) rfl (fun w' hw' => ?_)
    obtain ⟨J, hJ, hJs, rfl⟩ := hw'
    refine zAloadN d_X12_undo_61 rfl rfl (q := 62) rfl ?_
    refine zGetI d_X12_undo_62 ff_X12_171 sh_64 (by decide) (q := 65) rfl ?_
    refine zIret d_X12_undo_65 rfl rfl rfl ?_
    refine ⟨_, rfl, Or.inr ⟨Nat.succ_pos n, by rw [hJ _ (by decide), j14], J, rfl, fun a ha => by rw [hJ a (by omega), hJ1, zup_ne (by omega)], ?_⟩⟩
    have v : ∀ a, 14 < a → zLay (zup V 31 (zup (V 31) 4 (nI n))) ns nt nh (V 32 n) (V 33 n) (V 34 n) a = (zup V 31 (zup (V 31) 4 (nI n))) a := fun a ha => zLay_ne (Or.inr ha)
    have v2 : ∀ a, 14 < a → a ≠ 31 → zLay (zup V 31 (zup (V 31) 4 (nI n))) ns nt nh (V 32 n) (V 33 n) (V 34 n) a = V a := fun a ha h31 => (v a ha).trans (zup_ne h31)
    have f64 : ∀ i, i ≠ 14 → i ≠ 15 → J 64 i = I 64 i := fun i q1 q2 => by rw [hJ _ (by decide), hJ1]; show (zup (zup (I 64) 14 _) 15 _) i = _; rw [zup_ne q2, zup_ne q1]
    have fo : ∀ a, 74 < a → J a = I a := fun a ha => by rw [hJ a (Or.inr ha), hJ1, zup_ne (by omega)]
    refine ⟨by rw [e32, e33]; exact hJs, zMt_ex (f64 _ (by decide) (by decide)) (fo _ (by decide)) ⟨v2 _ (by decide) (by decide), v2 _ (by decide) (by decide)⟩ hD.2.1, ?_, zMi_ex (fun i hi => f64 i (by omega) (by omega)) (fo _ (by decide)) ⟨v2 _ (by decide) (by decide), v2 _ (by decide) (by decide)⟩ hD.2.2.2.1, zMa_ex ⟨f64 _ (by decide) (by decide), f64 _ (by decide) (by decide)⟩ ⟨fo _ (by decide), fo _ (by decide)⟩ ⟨v2 _ (by decide) (by decide), v2 _ (by decide) (by decide), v2 _ (by decide) (by decide)⟩ hD.2.2.2.2.1, zMh_ex ⟨fo _ (by decide), fo _ (by decide)⟩ (fun a ha => v2 a (by omega) (by omega)) hD.2.2.2.2.2.1, zMl_ex (f64 _ (by decide) (by decide)) (fun a ha => fo a (by omega)) hD.2.2.2.2.2.2⟩
    show zMc J (zLay (zup V 31 (zup (V 31) 4 (nI n))) ns nt nh (V 32 n) (V 33 n) (V 34 n))
    unfold zMc
    rw [v 31 (by decide), v2 32 (by decide) (by decide), v2 33 (by decide) (by decide), v2 34 (by decide) (by decide), v2 35 (by decide) (by decide), hJ 64 (by decide), fo 75 (by decide), fo 76 (by decide), fo 77 (by decide), fo 78 (by decide), hJ1]
    exact ⟨rfl, rfl, c3, c4, c5, c6⟩
  · have e : dn = 0 := (nI_eq (b := 0) (by omega) (by decide)).mp (hdn.symm.trans (c1.symm.trans h4))
    refine zBipush d_X12_undo_7 (v := -5) bc_m5 (q := 9) rfl ?_
    refine zIret d_X12_undo_9 rfl rfl rfl ?_
    exact ⟨_, rfl, Or.inl ⟨e, rfl, rfl⟩⟩
theorem sp_X12_redo (hd : 4 ≤ d) (hD : zMd I L V K pg) (hK : zSky V ns nt nh) {dn al : Nat} (hdn : V 31 4 = nI dn) (hal : V 31 5 = nI al) (h40 : al ≤ 40) (hle : dn ≤ al) (hB : zBc V ns nt nh al) : zSp g l d 100 m_X12_redo [.ref 64] (zU I L fs) (zX (fun x w => (dn = al ∧ x = -5 ∧ w = zU I L fs) ∨ (dn < al ∧ x = nI (al - (dn + 1)) ∧ ∃ J, w = zU J L fs ∧ zFrm I J ∧ zMd J L (zup (zLay V ns nt nh (V 32 dn) (V 33 dn) (V 35 dn)) 31 (zup (V 31) 4 (nI (dn + 1)))) K pg))) := by
  have hM := hD.1
  obtain ⟨c1, c2, c3, c4, c5, c6⟩ := id hD.2.2.1
  have e15 : I 64 15 = nI (al - dn) := by rw [c2, hdn, hal, pk_sub hle]
  refine zSp_of (lv := [(0, .ref 64)]) k_X12_redo rfl (Nat.le_of_ble_eq_true rfl) ?_
  refine zAloadN d_X12_redo_0 rfl rfl (q := 1) rfl ?_
  refine zGetI d_X12_redo_1 ff_X12_168 sh_64 (by decide) (q := 4) rfl ?_
  refine zIf_ne d_X12_redo_4 (tgt := 10) (q := 7) (by decide) rfl (fun h4 => ?_) (fun h4 => ?_)
  · have hlt : dn < al := by have : al - dn ≠ 0 := fun e => h4 (e15.trans (congrArg nI e)); omega
    obtain ⟨j, k, hj, hk, e32, e33⟩ := zBc_at hB (i := dn) hlt
    refine zAloadN d_X12_redo_10 rfl rfl (q := 11) rfl ?_
    refine zAloadN d_X12_redo_11 rfl rfl (q := 12) rfl ?_
    refine zGetR d_X12_redo_12 ff_X12_42 sh_64 (by decide) r_64_16 (q := 15) rfl ?_
    refine zAloadN d_X12_redo_15 rfl rfl (q := 16) rfl ?_
    refine zGetI d_X12_redo_16 ff_X12_171 sh_64 (by decide) (q := 19) rfl ?_
    refine zIald d_X12_redo_19 sh_75 (by decide) (c1.trans hdn) (by omega) (q := 20) rfl ?_
    refine zAloadN d_X12_redo_20 rfl rfl (q := 21) rfl ?_
    refine zGetR d_X12_redo_21 ff_X12_45 sh_64 (by decide) r_64_17 (q := 24) rfl ?_
    refine zAloadN d_X12_redo_24 rfl rfl (q := 25) rfl ?_
    refine zGetI d_X12_redo_25 ff_X12_171 sh_64 (by decide) (q := 28) rfl ?_
    refine zIald d_X12_redo_28 sh_76 (by decide) (c1.trans hdn) (by omega) (q := 29) rfl ?_
    refine zAloadN d_X12_redo_29 rfl rfl (q := 30) rfl ?_
    refine zGetR d_X12_redo_30 ff_X12_51 sh_64 (by decide) r_64_19 (q := 33) rfl ?_
    refine zAloadN d_X12_redo_33 rfl rfl (q := 34) rfl ?_
    refine zGetI d_X12_redo_34 ff_X12_171 sh_64 (by decide) (q := 37) rfl ?_
    refine zIald d_X12_redo_37 sh_78 (by decide) (c1.trans hdn) (by omega) (q := 38) rfl ?_
    rw [show I 75 dn = nI j from (congrFun c3 dn).trans e32, show I 76 dn = nI k from (congrFun c4 dn).trans e33, show I 78 dn = V 35 dn from congrFun c6 dn]
    refine zCallVV d_X12_redo_38 ml_X12_174 k_X12_lays ki_X12_lays ks_X12_lays (sp_X12_lays (d := d - 1) (by omega) hM hK hj hk) rfl rfl sh_64 (by decide) rfl (by decide) (Nat.le_of_ble_eq_true rfl) (by decide) (by omega) zns100 (q := 41) rfl (fun w' hw' => ?_)
    obtain ⟨J, hJ, hJs, rfl⟩ := hw'
    have j14 : J 64 14 + 1 = nI (dn + 1) := by rw [hJ _ (by decide), c1, hdn, nI_1]
    have j15 : J 64 15 - 1 = nI (al - (dn + 1)) := by rw [hJ _ (by decide), e15, show al - dn = (al - (dn + 1)) + 1 by omega, nI_pred]
    refine zAloadN d_X12_redo_41 rfl rfl (q := 42) rfl ?_
    refine zDup d_X12_redo_42 rfl (q := 43) rfl ?_
    refine zGetI d_X12_redo_43 ff_X12_171 sh_64 (by decide) (q := 46) rfl ?_
    refine zIconst d_X12_redo_46 (v := 1) ic_1 (q := 47) rfl ?_
    refine zIadd d_X12_redo_47 (q := 48) rfl ?_
    refine zPutI d_X12_redo_48 ff_X12_171 rfl rfl rfl sh_64 (by decide) (q := 51) rfl ?_
    refine zAloadN d_X12_redo_51 rfl rfl (q := 52) rfl ?_
    refine zDup d_X12_redo_52 rfl (q := 53) rfl ?_
    refine zGetI d_X12_redo_53 ff_X12_168 sh_64 (by decide) (q := 56) rfl ?_
    refine zIconst d_X12_redo_56 (v := 1) ic_1 (q := 57) rfl ?_
    refine zIsub d_X12_redo_57 (q := 58) rfl ?_
    refine zPutI d_X12_redo_58 ff_X12_168 rfl rfl rfl sh_64 (by decide) (q := 61) rfl ?_
    refine zAloadN d_X12_redo_61 rfl rfl (q := 62) rfl ?_
    refine zGetI d_X12_redo_62 ff_X12_168 sh_64 (by decide) (q := 65) rfl ?_
    refine zIret d_X12_redo_65 rfl rfl rfl ?_
    refine ⟨_, rfl, Or.inr ⟨hlt, j15, _, rfl, zFrm_up (zFrm_up (fun a ha => hJ a (by omega)) (by decide)) (by decide), ?_⟩⟩
    have eX : zup (zup J 64 (zup (J 64) 14 (J 64 14 + 1))) 64 (zup ((zup J 64 (zup (J 64) 14 (J 64 14 + 1))) 64) 15 ((zup J 64 (zup (J 64) 14 (J 64 14 + 1))) 64 15 - 1)) = zup J 64 (zup (zup (J 64) 14 (nI (dn + 1))) 15 (nI (al - (dn + 1)))) := by rw [zup_zup, zup_eq, j14, show (zup (J 64) 14 (nI (dn + 1))) 15 - 1 = nI (al - (dn + 1)) from j15]
    rw [eX]
    have v : ∀ a, 14 < a → a ≠ 31 → (zup (zLay V ns nt nh (V 32 dn) (V 33 dn) (V 35 dn)) 31 (zup (V 31) 4 (nI (dn + 1)))) a = V a := fun a ha h31 => (zup_ne h31).trans (zLay_ne (Or.inr ha))
    have f64 : ∀ i, i ≠ 14 → i ≠ 15 → (zup J 64 (zup (zup (J 64) 14 (nI (dn + 1))) 15 (nI (al - (dn + 1))))) 64 i = I 64 i := fun i q1 q2 => by rw [zup_eq, zup_ne q2, zup_ne q1, hJ _ (by decide)]
    have fo : ∀ a, 74 < a → (zup J 64 (zup (zup (J 64) 14 (nI (dn + 1))) 15 (nI (al - (dn + 1))))) a = I a := fun a ha => by rw [zup_ne (by omega), hJ a (Or.inr ha)]
    refine ⟨zMs_ex (I := J) ⟨rfl, rfl, rfl⟩ (fun a ha => zup_ne (by omega)) (fun a ha => zup_ne (by omega)) (by rw [e32, e33]; exact hJs), zMt_ex (f64 _ (by decide) (by decide)) (fo _ (by decide)) ⟨v _ (by decide) (by decide), v _ (by decide) (by decide)⟩ hD.2.1, ?_, zMi_ex (fun i hi => f64 i (by omega) (by omega)) (fo _ (by decide)) ⟨v _ (by decide) (by decide), v _ (by decide) (by decide)⟩ hD.2.2.2.1, zMa_ex ⟨f64 _ (by decide) (by decide), f64 _ (by decide) (by decide)⟩ ⟨fo _ (by decide), fo _ (by decide)⟩ ⟨v _ (by decide) (by decide), v _ (by decide) (by decide), v _ (by decide) (by decide)⟩ hD.2.2.2.2.1, zMh_ex ⟨fo _ (by decide), fo _ (by decide)⟩ (fun a ha => v a (by omega) (by omega)) hD.2.2.2.2.2.1, zMl_ex (f64 _ (by decide) (by decide)) (fun a ha => fo a (by omega)) hD.2.2.2.2.2.2⟩
    unfold zMc
    rw [v 32 (by decide) (by decide), v 33 (by decide) (by decide), v 34 (by decide) (by decide), v 35 (by decide) (by decide), fo 75 (by decide), fo 76 (by decide), fo 77 (by decide), fo 78 (by decide)]
    exact ⟨rfl, (show nI (al - (dn + 1)) = V 31 5 - nI (dn + 1) by rw [hal, pk_sub (by omega)]), c3, c4, c5, c6⟩
  · have e : dn = al := by have := (nI_eq (b := 0) (by omega) (by decide)).mp (e15.symm.trans h4); omega
    refine zBipush d_X12_redo_7 (v := -5) bc_m5 (q := 9) rfl ?_
    refine zIret d_X12_redo_9 rfl rfl rfl ?_
    exact ⟨_, rfl, Or.inl ⟨e, rfl, rfl⟩⟩
end S43

