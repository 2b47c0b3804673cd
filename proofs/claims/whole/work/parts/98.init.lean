theorem d_X0_init_0 : decode (zmc m_X0_init) 0 = .ok (.aload_n 0, 1) := by decide +kernel
theorem d_X0_init_1 : decode (zmc m_X0_init) 1 = .ok (.invokespecial 3, 3) := by decide +kernel
theorem d_X0_init_4 : decode (zmc m_X0_init) 4 = .ok (.aload_n 0, 1) := by decide +kernel
theorem d_X0_init_5 : decode (zmc m_X0_init) 5 = .ok (.bipush 50, 2) := by decide +kernel
theorem d_X0_init_7 : decode (zmc m_X0_init) 7 = .ok (.newarray .int, 2) := by decide +kernel
theorem d_X0_init_9 : decode (zmc m_X0_init) 9 = .ok (.putfield 11, 3) := by decide +kernel
theorem d_X0_init_12 : decode (zmc m_X0_init) 12 = .ok (.aload_n 0, 1) := by decide +kernel
theorem d_X0_init_13 : decode (zmc m_X0_init) 13 = .ok (.bipush 24, 2) := by decide +kernel
theorem d_X0_init_15 : decode (zmc m_X0_init) 15 = .ok (.newarray .int, 2) := by decide +kernel
theorem d_X0_init_17 : decode (zmc m_X0_init) 17 = .ok (.putfield 15, 3) := by decide +kernel
theorem d_X0_init_20 : decode (zmc m_X0_init) 20 = .ok (.return_, 1) := by decide +kernel
theorem d_X10_init_0 : decode (zmc m_X10_init) 0 = .ok (.aload_n 0, 1) := by decide +kernel
theorem d_X10_init_1 : decode (zmc m_X10_init) 1 = .ok (.invokespecial 3, 3) := by decide +kernel
theorem d_X10_init_4 : decode (zmc m_X10_init) 4 = .ok (.aload_n 0, 1) := by decide +kernel
theorem d_X10_init_5 : decode (zmc m_X10_init) 5 = .ok (.bipush 120, 2) := by decide +kernel
theorem d_X10_init_7 : decode (zmc m_X10_init) 7 = .ok (.newarray .int, 2) := by decide +kernel
theorem d_X10_init_9 : decode (zmc m_X10_init) 9 = .ok (.putfield 11, 3) := by decide +kernel
theorem d_X10_init_12 : decode (zmc m_X10_init) 12 = .ok (.return_, 1) := by decide +kernel
theorem d_X1_init_0 : decode (zmc m_X1_init) 0 = .ok (.aload_n 0, 1) := by decide +kernel
theorem d_X1_init_1 : decode (zmc m_X1_init) 1 = .ok (.invokespecial 3, 3) := by decide +kernel
theorem d_X1_init_4 : decode (zmc m_X1_init) 4 = .ok (.aload_n 0, 1) := by decide +kernel
theorem d_X1_init_5 : decode (zmc m_X1_init) 5 = .ok (.bipush 40, 2) := by decide +kernel
theorem d_X1_init_7 : decode (zmc m_X1_init) 7 = .ok (.newarray .int, 2) := by decide +kernel
theorem d_X1_init_9 : decode (zmc m_X1_init) 9 = .ok (.putfield 11, 3) := by decide +kernel
theorem d_X1_init_12 : decode (zmc m_X1_init) 12 = .ok (.aload_n 0, 1) := by decide +kernel
theorem d_X1_init_13 : decode (zmc m_X1_init) 13 = .ok (.bipush 40, 2) := by decide +kernel
theorem d_X1_init_15 : decode (zmc m_X1_init) 15 = .ok (.newarray .int, 2) := by decide +kernel
theorem d_X1_init_17 : decode (zmc m_X1_init) 17 = .ok (.putfield 15, 3) := by decide +kernel
theorem d_X1_init_20 : decode (zmc m_X1_init) 20 = .ok (.aload_n 0, 1) := by decide +kernel
theorem d_X1_init_21 : decode (zmc m_X1_init) 21 = .ok (.bipush 40, 2) := by decide +kernel
theorem d_X1_init_23 : decode (zmc m_X1_init) 23 = .ok (.newarray .int, 2) := by decide +kernel
theorem d_X1_init_25 : decode (zmc m_X1_init) 25 = .ok (.putfield 18, 3) := by decide +kernel
theorem d_X1_init_28 : decode (zmc m_X1_init) 28 = .ok (.aload_n 0, 1) := by decide +kernel
theorem d_X1_init_29 : decode (zmc m_X1_init) 29 = .ok (.bipush 40, 2) := by decide +kernel
theorem d_X1_init_31 : decode (zmc m_X1_init) 31 = .ok (.newarray .int, 2) := by decide +kernel
theorem d_X1_init_33 : decode (zmc m_X1_init) 33 = .ok (.putfield 21, 3) := by decide +kernel
theorem d_X1_init_36 : decode (zmc m_X1_init) 36 = .ok (.return_, 1) := by decide +kernel
theorem d_X2_init_0 : decode (zmc m_X2_init) 0 = .ok (.aload_n 0, 1) := by decide +kernel
theorem d_X2_init_1 : decode (zmc m_X2_init) 1 = .ok (.invokespecial 3, 3) := by decide +kernel
theorem d_X2_init_4 : decode (zmc m_X2_init) 4 = .ok (.aload_n 0, 1) := by decide +kernel
theorem d_X2_init_5 : decode (zmc m_X2_init) 5 = .ok (.bipush 8, 2) := by decide +kernel
theorem d_X2_init_7 : decode (zmc m_X2_init) 7 = .ok (.newarray .int, 2) := by decide +kernel
theorem d_X2_init_9 : decode (zmc m_X2_init) 9 = .ok (.putfield 11, 3) := by decide +kernel
theorem d_X2_init_12 : decode (zmc m_X2_init) 12 = .ok (.aload_n 0, 1) := by decide +kernel
theorem d_X2_init_13 : decode (zmc m_X2_init) 13 = .ok (.bipush 8, 2) := by decide +kernel
theorem d_X2_init_15 : decode (zmc m_X2_init) 15 = .ok (.newarray .int, 2) := by decide +kernel
theorem d_X2_init_17 : decode (zmc m_X2_init) 17 = .ok (.putfield 15, 3) := by decide +kernel
theorem d_X2_init_20 : decode (zmc m_X2_init) 20 = .ok (.aload_n 0, 1) := by decide +kernel
theorem d_X2_init_21 : decode (zmc m_X2_init) 21 = .ok (.aload_n 1, 1) := by decide +kernel
theorem d_X2_init_22 : decode (zmc m_X2_init) 22 = .ok (.putfield 18, 3) := by decide +kernel
theorem d_X2_init_25 : decode (zmc m_X2_init) 25 = .ok (.return_, 1) := by decide +kernel
theorem d_X3_init_0 : decode (zmc m_X3_init) 0 = .ok (.aload_n 0, 1) := by decide +kernel
theorem d_X3_init_1 : decode (zmc m_X3_init) 1 = .ok (.invokespecial 3, 3) := by decide +kernel
theorem d_X3_init_4 : decode (zmc m_X3_init) 4 = .ok (.aload_n 0, 1) := by decide +kernel
theorem d_X3_init_5 : decode (zmc m_X3_init) 5 = .ok (.bipush 24, 2) := by decide +kernel
theorem d_X3_init_7 : decode (zmc m_X3_init) 7 = .ok (.newarray .int, 2) := by decide +kernel
theorem d_X3_init_9 : decode (zmc m_X3_init) 9 = .ok (.putfield 9, 3) := by decide +kernel
theorem d_X3_init_12 : decode (zmc m_X3_init) 12 = .ok (.aload_n 0, 1) := by decide +kernel
theorem d_X3_init_13 : decode (zmc m_X3_init) 13 = .ok (.aload_n 1, 1) := by decide +kernel
theorem d_X3_init_14 : decode (zmc m_X3_init) 14 = .ok (.putfield 15, 3) := by decide +kernel
theorem d_X3_init_17 : decode (zmc m_X3_init) 17 = .ok (.return_, 1) := by decide +kernel
theorem d_X4_init_0 : decode (zmc m_X4_init) 0 = .ok (.aload_n 0, 1) := by decide +kernel
theorem d_X4_init_1 : decode (zmc m_X4_init) 1 = .ok (.invokespecial 1, 3) := by decide +kernel
theorem d_X4_init_4 : decode (zmc m_X4_init) 4 = .ok (.aload_n 0, 1) := by decide +kernel
theorem d_X4_init_5 : decode (zmc m_X4_init) 5 = .ok (.bipush 12, 2) := by decide +kernel
theorem d_X4_init_7 : decode (zmc m_X4_init) 7 = .ok (.newarray .int, 2) := by decide +kernel
theorem d_X4_init_9 : decode (zmc m_X4_init) 9 = .ok (.putfield 9, 3) := by decide +kernel
theorem d_X4_init_12 : decode (zmc m_X4_init) 12 = .ok (.aload_n 0, 1) := by decide +kernel
theorem d_X4_init_13 : decode (zmc m_X4_init) 13 = .ok (.bipush 12, 2) := by decide +kernel
theorem d_X4_init_15 : decode (zmc m_X4_init) 15 = .ok (.newarray .int, 2) := by decide +kernel
theorem d_X4_init_17 : decode (zmc m_X4_init) 17 = .ok (.putfield 13, 3) := by decide +kernel
theorem d_X4_init_20 : decode (zmc m_X4_init) 20 = .ok (.aload_n 0, 1) := by decide +kernel
theorem d_X4_init_21 : decode (zmc m_X4_init) 21 = .ok (.aload_n 1, 1) := by decide +kernel
theorem d_X4_init_22 : decode (zmc m_X4_init) 22 = .ok (.putfield 16, 3) := by decide +kernel
theorem d_X4_init_25 : decode (zmc m_X4_init) 25 = .ok (.return_, 1) := by decide +kernel
theorem d_X5_init_0 : decode (zmc m_X5_init) 0 = .ok (.aload_n 0, 1) := by decide +kernel
theorem d_X5_init_1 : decode (zmc m_X5_init) 1 = .ok (.invokespecial 1, 3) := by decide +kernel
theorem d_X5_init_4 : decode (zmc m_X5_init) 4 = .ok (.aload_n 0, 1) := by decide +kernel
theorem d_X5_init_5 : decode (zmc m_X5_init) 5 = .ok (.iconst 5, 1) := by decide +kernel
theorem d_X5_init_6 : decode (zmc m_X5_init) 6 = .ok (.newarray .int, 2) := by decide +kernel
theorem d_X5_init_8 : decode (zmc m_X5_init) 8 = .ok (.putfield 9, 3) := by decide +kernel
theorem d_X5_init_11 : decode (zmc m_X5_init) 11 = .ok (.return_, 1) := by decide +kernel
theorem d_X6_init_0 : decode (zmc m_X6_init) 0 = .ok (.aload_n 0, 1) := by decide +kernel
theorem d_X6_init_1 : decode (zmc m_X6_init) 1 = .ok (.invokespecial 1, 3) := by decide +kernel
theorem d_X6_init_4 : decode (zmc m_X6_init) 4 = .ok (.aload_n 0, 1) := by decide +kernel
theorem d_X6_init_5 : decode (zmc m_X6_init) 5 = .ok (.sipush 128, 3) := by decide +kernel
theorem d_X6_init_8 : decode (zmc m_X6_init) 8 = .ok (.newarray .int, 2) := by decide +kernel
theorem d_X6_init_10 : decode (zmc m_X6_init) 10 = .ok (.putfield 9, 3) := by decide +kernel
theorem d_X6_init_13 : decode (zmc m_X6_init) 13 = .ok (.aload_n 0, 1) := by decide +kernel
theorem d_X6_init_14 : decode (zmc m_X6_init) 14 = .ok (.sipush 128, 3) := by decide +kernel
theorem d_X6_init_17 : decode (zmc m_X6_init) 17 = .ok (.newarray .int, 2) := by decide +kernel
theorem d_X6_init_19 : decode (zmc m_X6_init) 19 = .ok (.putfield 13, 3) := by decide +kernel
theorem d_X6_init_22 : decode (zmc m_X6_init) 22 = .ok (.aload_n 0, 1) := by decide +kernel
theorem d_X6_init_23 : decode (zmc m_X6_init) 23 = .ok (.sipush 128, 3) := by decide +kernel
theorem d_X6_init_26 : decode (zmc m_X6_init) 26 = .ok (.newarray .int, 2) := by decide +kernel
theorem d_X6_init_28 : decode (zmc m_X6_init) 28 = .ok (.putfield 16, 3) := by decide +kernel
theorem d_X6_init_31 : decode (zmc m_X6_init) 31 = .ok (.aload_n 0, 1) := by decide +kernel
theorem d_X6_init_32 : decode (zmc m_X6_init) 32 = .ok (.bipush 6, 2) := by decide +kernel
theorem d_X6_init_34 : decode (zmc m_X6_init) 34 = .ok (.newarray .int, 2) := by decide +kernel
theorem d_X6_init_36 : decode (zmc m_X6_init) 36 = .ok (.putfield 19, 3) := by decide +kernel
theorem d_X6_init_39 : decode (zmc m_X6_init) 39 = .ok (.return_, 1) := by decide +kernel
theorem d_X7_init_0 : decode (zmc m_X7_init) 0 = .ok (.aload_n 0, 1) := by decide +kernel
theorem d_X7_init_1 : decode (zmc m_X7_init) 1 = .ok (.invokespecial 1, 3) := by decide +kernel
theorem d_X7_init_4 : decode (zmc m_X7_init) 4 = .ok (.aload_n 0, 1) := by decide +kernel
theorem d_X7_init_5 : decode (zmc m_X7_init) 5 = .ok (.bipush 10, 2) := by decide +kernel
theorem d_X7_init_7 : decode (zmc m_X7_init) 7 = .ok (.newarray .int, 2) := by decide +kernel
theorem d_X7_init_9 : decode (zmc m_X7_init) 9 = .ok (.putfield 9, 3) := by decide +kernel
theorem d_X7_init_12 : decode (zmc m_X7_init) 12 = .ok (.aload_n 0, 1) := by decide +kernel
theorem d_X7_init_13 : decode (zmc m_X7_init) 13 = .ok (.bipush 10, 2) := by decide +kernel
theorem d_X7_init_15 : decode (zmc m_X7_init) 15 = .ok (.newarray .int, 2) := by decide +kernel
theorem d_X7_init_17 : decode (zmc m_X7_init) 17 = .ok (.putfield 15, 3) := by decide +kernel
theorem d_X7_init_20 : decode (zmc m_X7_init) 20 = .ok (.aload_n 0, 1) := by decide +kernel
theorem d_X7_init_21 : decode (zmc m_X7_init) 21 = .ok (.bipush 10, 2) := by decide +kernel
theorem d_X7_init_23 : decode (zmc m_X7_init) 23 = .ok (.newarray .int, 2) := by decide +kernel
theorem d_X7_init_25 : decode (zmc m_X7_init) 25 = .ok (.putfield 18, 3) := by decide +kernel
theorem d_X7_init_28 : decode (zmc m_X7_init) 28 = .ok (.aload_n 0, 1) := by decide +kernel
theorem d_X7_init_29 : decode (zmc m_X7_init) 29 = .ok (.iconst 4, 1) := by decide +kernel
theorem d_X7_init_30 : decode (zmc m_X7_init) 30 = .ok (.newarray .int, 2) := by decide +kernel
theorem d_X7_init_32 : decode (zmc m_X7_init) 32 = .ok (.putfield 21, 3) := by decide +kernel
theorem d_X7_init_35 : decode (zmc m_X7_init) 35 = .ok (.return_, 1) := by decide +kernel
theorem d_X8_init_0 : decode (zmc m_X8_init) 0 = .ok (.aload_n 0, 1) := by decide +kernel
theorem d_X8_init_1 : decode (zmc m_X8_init) 1 = .ok (.invokespecial 3, 3) := by decide +kernel
theorem d_X8_init_4 : decode (zmc m_X8_init) 4 = .ok (.aload_n 0, 1) := by decide +kernel
theorem d_X8_init_5 : decode (zmc m_X8_init) 5 = .ok (.bipush 60, 2) := by decide +kernel
theorem d_X8_init_7 : decode (zmc m_X8_init) 7 = .ok (.newarray .long, 2) := by decide +kernel
theorem d_X8_init_9 : decode (zmc m_X8_init) 9 = .ok (.putfield 11, 3) := by decide +kernel
theorem d_X8_init_12 : decode (zmc m_X8_init) 12 = .ok (.aload_n 0, 1) := by decide +kernel
theorem d_X8_init_13 : decode (zmc m_X8_init) 13 = .ok (.iconst (-1), 1) := by decide +kernel
theorem d_X8_init_14 : decode (zmc m_X8_init) 14 = .ok (.putfield 15, 3) := by decide +kernel
theorem d_X8_init_17 : decode (zmc m_X8_init) 17 = .ok (.return_, 1) := by decide +kernel
theorem d_X9_init_0 : decode (zmc m_X9_init) 0 = .ok (.aload_n 0, 1) := by decide +kernel
theorem d_X9_init_1 : decode (zmc m_X9_init) 1 = .ok (.invokespecial 3, 3) := by decide +kernel
theorem d_X9_init_4 : decode (zmc m_X9_init) 4 = .ok (.aload_n 0, 1) := by decide +kernel
theorem d_X9_init_5 : decode (zmc m_X9_init) 5 = .ok (.bipush 12, 2) := by decide +kernel
theorem d_X9_init_7 : decode (zmc m_X9_init) 7 = .ok (.bipush 10, 2) := by decide +kernel
theorem d_X9_init_9 : decode (zmc m_X9_init) 9 = .ok (.multianewarray 11 2, 4) := by decide +kernel
theorem d_X9_init_13 : decode (zmc m_X9_init) 13 = .ok (.putfield 13, 3) := by decide +kernel
theorem d_X9_init_16 : decode (zmc m_X9_init) 16 = .ok (.aload_n 0, 1) := by decide +kernel
theorem d_X9_init_17 : decode (zmc m_X9_init) 17 = .ok (.aload_n 0, 1) := by decide +kernel
theorem d_X9_init_18 : decode (zmc m_X9_init) 18 = .ok (.getfield 13, 3) := by decide +kernel
theorem d_X9_init_21 : decode (zmc m_X9_init) 21 = .ok (.bipush 8, 2) := by decide +kernel
theorem d_X9_init_23 : decode (zmc m_X9_init) 23 = .ok (.aaload, 1) := by decide +kernel
theorem d_X9_init_24 : decode (zmc m_X9_init) 24 = .ok (.putfield 16, 3) := by decide +kernel
theorem d_X9_init_27 : decode (zmc m_X9_init) 27 = .ok (.aload_n 0, 1) := by decide +kernel
theorem d_X9_init_28 : decode (zmc m_X9_init) 28 = .ok (.iconst 5, 1) := by decide +kernel
theorem d_X9_init_29 : decode (zmc m_X9_init) 29 = .ok (.newarray .int, 2) := by decide +kernel
theorem d_X9_init_31 : decode (zmc m_X9_init) 31 = .ok (.putfield 20, 3) := by decide +kernel
theorem d_X9_init_34 : decode (zmc m_X9_init) 34 = .ok (.aload_n 0, 1) := by decide +kernel
theorem d_X9_init_35 : decode (zmc m_X9_init) 35 = .ok (.getfield 13, 3) := by decide +kernel
theorem d_X9_init_38 : decode (zmc m_X9_init) 38 = .ok (.bipush 10, 2) := by decide +kernel
theorem d_X9_init_40 : decode (zmc m_X9_init) 40 = .ok (.aaload, 1) := by decide +kernel
theorem d_X9_init_41 : decode (zmc m_X9_init) 41 = .ok (.iconst 0, 1) := by decide +kernel
theorem d_X9_init_42 : decode (zmc m_X9_init) 42 = .ok (.sipush 480, 3) := by decide +kernel
theorem d_X9_init_45 : decode (zmc m_X9_init) 45 = .ok (.iastore, 1) := by decide +kernel
theorem d_X9_init_46 : decode (zmc m_X9_init) 46 = .ok (.aload_n 0, 1) := by decide +kernel
theorem d_X9_init_47 : decode (zmc m_X9_init) 47 = .ok (.getfield 13, 3) := by decide +kernel
theorem d_X9_init_50 : decode (zmc m_X9_init) 50 = .ok (.bipush 11, 2) := by decide +kernel
theorem d_X9_init_52 : decode (zmc m_X9_init) 52 = .ok (.aaload, 1) := by decide +kernel
theorem d_X9_init_53 : decode (zmc m_X9_init) 53 = .ok (.iconst 0, 1) := by decide +kernel
theorem d_X9_init_54 : decode (zmc m_X9_init) 54 = .ok (.iconst 1, 1) := by decide +kernel
theorem d_X9_init_55 : decode (zmc m_X9_init) 55 = .ok (.iastore, 1) := by decide +kernel
theorem d_X9_init_56 : decode (zmc m_X9_init) 56 = .ok (.return_, 1) := by decide +kernel
/-! CONSTRUCTORS -/
section S98
variable {g : zG} {l : Launch} {d : Nat}
theorem sp_X9_init {is : List (Nat × Nat × Int32)} {ps : List (Nat × Nat × Nat)} (hd : 1 ≤ d) (hi : zFi is 2) (hp : zFp ps 2) : zSp g l d 16 m_X9_init [.ref 1] (zIl is, zL0, zRl ps, 2) (zV (fun w => w = (zIl ((14, 0, 1) :: (13, 0, 480) :: is), zL0, zRl ((1, 2, 15) :: (1, 1, 11) :: (1, 0, 2) :: (2, 11, 14) :: (2, 10, 13) :: (2, 9, 12) :: (2, 8, 11) :: (2, 7, 10) :: (2, 6, 9) :: (2, 5, 8) :: (2, 4, 7) :: (2, 3, 6) :: (2, 2, 5) :: (2, 1, 4) :: (2, 0, 3) :: ps), 16))) := by
  refine zSp_of (lv := [(0, .ref 1)]) k_X9_init rfl (Nat.le_of_ble_eq_true rfl) ?_
  show zAW g l d 2 16 m_X9_init (zIl is, zL0, zRl ps, 2) 0 [(0, .ref 1)] [] _
  refine zAloadN d_X9_init_0 rfl rfl (q := 1) rfl ?_
  refine zObj d_X9_init_1 ml_X9_3 (by omega) (Nat.le_of_ble_eq_true rfl) (q := 4) rfl ?_
  refine zAloadN d_X9_init_4 rfl rfl (q := 5) rfl ?_
  refine zBipush d_X9_init_5 (v := 12) rfl (q := 7) rfl ?_
  refine zBipush d_X9_init_7 (v := 10) rfl (q := 9) rfl ?_
  refine yMulti d_X9_init_9 cl_X9_11 hi hp rfl rfl ⟨by decide, by decide⟩ (q := 13) rfl ?_
  have hi : zFi _ 15 := zFi_mono (by decide) hi
  have hp : zFp _ 15 := yMultiF hp
  first | refine yPutF d_X9_init_13 ff_X9_13 rfl rfl rfl (fun _ => rfl) (fun _ => rfl) sh_1 (by decide) (q := 16) rfl ?_ | refine yPutR d_X9_init_13 ff_X9_13 rfl (fun _ => rfl) (fun _ => rfl) rfl rfl sh_1 (by decide) (q := 16) rfl ?_
  have hp : zFp _ 15 := zFpC (a := 1) (k := 0) (b := 2) (by decide) hp
  refine zAloadN d_X9_init_16 rfl rfl (q := 17) rfl ?_
  refine zAloadN d_X9_init_17 rfl rfl (q := 18) rfl ?_
  refine zGetR d_X9_init_18 ff_X9_13 sh_1 (by decide) (b := 2) rfl (q := 21) rfl ?_
  refine zBipush d_X9_init_21 (v := 8) rfl (q := 23) rfl ?_
  refine zAaldII d_X9_init_23 sh_2 (by decide) (j := 8) rfl (by decide) (b := 11) rfl (q := 24) rfl ?_
  first | refine yPutF d_X9_init_24 ff_X9_16 rfl rfl rfl (fun _ => rfl) (fun _ => rfl) sh_1 (by decide) (q := 27) rfl ?_ | refine yPutR d_X9_init_24 ff_X9_16 rfl (fun _ => rfl) (fun _ => rfl) rfl rfl sh_1 (by decide) (q := 27) rfl ?_
  have hp : zFp _ 15 := zFpC (a := 1) (k := 1) (b := 11) (by decide) hp
  refine zAloadN d_X9_init_27 rfl rfl (q := 28) rfl ?_
  refine zIconst d_X9_init_28 (v := 5) rfl (q := 29) rfl ?_
  refine yNewI d_X9_init_29 rfl sh_15 hi hp (by decide) (n2 := 16) rfl (q := 31) rfl ?_
  have hi : zFi _ 16 := zFiS hi
  have hp : zFp _ 16 := zFpS hp
  first | refine yPutF d_X9_init_31 ff_X9_20 rfl rfl rfl (fun _ => rfl) (fun _ => rfl) sh_1 (by decide) (q := 34) rfl ?_ | refine yPutR d_X9_init_31 ff_X9_20 rfl (fun _ => rfl) (fun _ => rfl) rfl rfl sh_1 (by decide) (q := 34) rfl ?_
  have hp : zFp _ 16 := zFpC (a := 1) (k := 2) (b := 15) (by decide) hp
  refine zAloadN d_X9_init_34 rfl rfl (q := 35) rfl ?_
  refine zGetR d_X9_init_35 ff_X9_13 sh_1 (by decide) (b := 2) rfl (q := 38) rfl ?_
  refine zBipush d_X9_init_38 (v := 10) rfl (q := 40) rfl ?_
  refine zAaldII d_X9_init_40 sh_2 (by decide) (j := 10) rfl (by decide) (b := 13) rfl (q := 41) rfl ?_
  refine zIconst d_X9_init_41 (v := 0) rfl (q := 42) rfl ?_
  refine zSipush d_X9_init_42 (v := 480) rfl (q := 45) rfl ?_
  refine yIast d_X9_init_45 sh_13 (by decide) (j := 0) rfl (by decide) (q := 46) rfl ?_
  have hi : zFi _ 16 := zFiC (a := 13) (k := 0) (x := 480) (by decide) hi
  refine zAloadN d_X9_init_46 rfl rfl (q := 47) rfl ?_
  refine zGetR d_X9_init_47 ff_X9_13 sh_1 (by decide) (b := 2) rfl (q := 50) rfl ?_
  refine zBipush d_X9_init_50 (v := 11) rfl (q := 52) rfl ?_
  refine zAaldII d_X9_init_52 sh_2 (by decide) (j := 11) rfl (by decide) (b := 14) rfl (q := 53) rfl ?_
  refine zIconst d_X9_init_53 (v := 0) rfl (q := 54) rfl ?_
  refine zIconst d_X9_init_54 (v := 1) rfl (q := 55) rfl ?_
  refine yIast d_X9_init_55 sh_14 (by decide) (j := 0) rfl (by decide) (q := 56) rfl ?_
  have hi : zFi _ 16 := zFiC (a := 14) (k := 0) (x := 1) (by decide) hi
  refine zVret d_X9_init_56 rfl rfl ?_
  exact ⟨rfl, rfl⟩
theorem sp_X4_init {is : List (Nat × Nat × Int32)} {ps : List (Nat × Nat × Nat)} (hd : 1 ≤ d) (hi : zFi is 17) (hp : zFp ps 17) : zSp g l d 19 m_X4_init [.ref 16, .ref 1] (zIl is, zL0, zRl ps, 17) (zV (fun w => w = (zIl (is), zL0, zRl ((16, 0, 1) :: (16, 2, 18) :: (16, 1, 17) :: ps), 19))) := by
  refine zSp_of (lv := [(0, .ref 16), (1, .ref 1)]) k_X4_init rfl (Nat.le_of_ble_eq_true rfl) ?_
  show zAW g l d 17 19 m_X4_init (zIl is, zL0, zRl ps, 17) 0 [(0, .ref 16), (1, .ref 1)] [] _
  refine zAloadN d_X4_init_0 rfl rfl (q := 1) rfl ?_
  refine zObj d_X4_init_1 ml_X4_1 (by omega) (Nat.le_of_ble_eq_true rfl) (q := 4) rfl ?_
  refine zAloadN d_X4_init_4 rfl rfl (q := 5) rfl ?_
  refine zBipush d_X4_init_5 (v := 12) rfl (q := 7) rfl ?_
  refine yNewI d_X4_init_7 rfl sh_17 hi hp (by decide) (n2 := 18) rfl (q := 9) rfl ?_
  have hi : zFi _ 18 := zFiS hi
  have hp : zFp _ 18 := zFpS hp
  first | refine yPutF d_X4_init_9 ff_X4_9 rfl rfl rfl (fun _ => rfl) (fun _ => rfl) sh_16 (by decide) (q := 12) rfl ?_ | refine yPutR d_X4_init_9 ff_X4_9 rfl (fun _ => rfl) (fun _ => rfl) rfl rfl sh_16 (by decide) (q := 12) rfl ?_
  have hp : zFp _ 18 := zFpC (a := 16) (k := 1) (b := 17) (by decide) hp
  refine zAloadN d_X4_init_12 rfl rfl (q := 13) rfl ?_
  refine zBipush d_X4_init_13 (v := 12) rfl (q := 15) rfl ?_
  refine yNewI d_X4_init_15 rfl sh_18 hi hp (by decide) (n2 := 19) rfl (q := 17) rfl ?_
  have hi : zFi _ 19 := zFiS hi
  have hp : zFp _ 19 := zFpS hp
  first | refine yPutF d_X4_init_17 ff_X4_13 rfl rfl rfl (fun _ => rfl) (fun _ => rfl) sh_16 (by decide) (q := 20) rfl ?_ | refine yPutR d_X4_init_17 ff_X4_13 rfl (fun _ => rfl) (fun _ => rfl) rfl rfl sh_16 (by decide) (q := 20) rfl ?_
  have hp : zFp _ 19 := zFpC (a := 16) (k := 2) (b := 18) (by decide) hp
  refine zAloadN d_X4_init_20 rfl rfl (q := 21) rfl ?_
  refine zAloadN d_X4_init_21 rfl rfl (q := 22) rfl ?_
  first | refine yPutF d_X4_init_22 ff_X4_16 rfl rfl rfl (fun _ => rfl) (fun _ => rfl) sh_16 (by decide) (q := 25) rfl ?_ | refine yPutR d_X4_init_22 ff_X4_16 rfl (fun _ => rfl) (fun _ => rfl) rfl rfl sh_16 (by decide) (q := 25) rfl ?_
  have hp : zFp _ 19 := zFpC (a := 16) (k := 0) (b := 1) (by decide) hp
  refine zVret d_X4_init_25 rfl rfl ?_
  exact ⟨rfl, rfl⟩
theorem sp_X2_init {is : List (Nat × Nat × Int32)} {ps : List (Nat × Nat × Nat)} (hd : 1 ≤ d) (hi : zFi is 20) (hp : zFp ps 20) : zSp g l d 22 m_X2_init [.ref 19, .ref 1] (zIl is, zL0, zRl ps, 20) (zV (fun w => w = (zIl (is), zL0, zRl ((19, 0, 1) :: (19, 2, 21) :: (19, 1, 20) :: ps), 22))) := by
  refine zSp_of (lv := [(0, .ref 19), (1, .ref 1)]) k_X2_init rfl (Nat.le_of_ble_eq_true rfl) ?_
  show zAW g l d 20 22 m_X2_init (zIl is, zL0, zRl ps, 20) 0 [(0, .ref 19), (1, .ref 1)] [] _
  refine zAloadN d_X2_init_0 rfl rfl (q := 1) rfl ?_
  refine zObj d_X2_init_1 ml_X2_3 (by omega) (Nat.le_of_ble_eq_true rfl) (q := 4) rfl ?_
  refine zAloadN d_X2_init_4 rfl rfl (q := 5) rfl ?_
  refine zBipush d_X2_init_5 (v := 8) rfl (q := 7) rfl ?_
  refine yNewI d_X2_init_7 rfl sh_20 hi hp (by decide) (n2 := 21) rfl (q := 9) rfl ?_
  have hi : zFi _ 21 := zFiS hi
  have hp : zFp _ 21 := zFpS hp
  first | refine yPutF d_X2_init_9 ff_X2_11 rfl rfl rfl (fun _ => rfl) (fun _ => rfl) sh_19 (by decide) (q := 12) rfl ?_ | refine yPutR d_X2_init_9 ff_X2_11 rfl (fun _ => rfl) (fun _ => rfl) rfl rfl sh_19 (by decide) (q := 12) rfl ?_
  have hp : zFp _ 21 := zFpC (a := 19) (k := 1) (b := 20) (by decide) hp
  refine zAloadN d_X2_init_12 rfl rfl (q := 13) rfl ?_
  refine zBipush d_X2_init_13 (v := 8) rfl (q := 15) rfl ?_
  refine yNewI d_X2_init_15 rfl sh_21 hi hp (by decide) (n2 := 22) rfl (q := 17) rfl ?_
  have hi : zFi _ 22 := zFiS hi
  have hp : zFp _ 22 := zFpS hp
  first | refine yPutF d_X2_init_17 ff_X2_15 rfl rfl rfl (fun _ => rfl) (fun _ => rfl) sh_19 (by decide) (q := 20) rfl ?_ | refine yPutR d_X2_init_17 ff_X2_15 rfl (fun _ => rfl) (fun _ => rfl) rfl rfl sh_19 (by decide) (q := 20) rfl ?_
  have hp : zFp _ 22 := zFpC (a := 19) (k := 2) (b := 21) (by decide) hp
  refine zAloadN d_X2_init_20 rfl rfl (q := 21) rfl ?_
  refine zAloadN d_X2_init_21 rfl rfl (q := 22) rfl ?_
  first | refine yPutF d_X2_init_22 ff_X2_18 rfl rfl rfl (fun _ => rfl) (fun _ => rfl) sh_19 (by decide) (q := 25) rfl ?_ | refine yPutR d_X2_init_22 ff_X2_18 rfl (fun _ => rfl) (fun _ => rfl) rfl rfl sh_19 (by decide) (q := 25) rfl ?_
  have hp : zFp _ 22 := zFpC (a := 19) (k := 0) (b := 1) (by decide) hp
  refine zVret d_X2_init_25 rfl rfl ?_
  exact ⟨rfl, rfl⟩
theorem sp_X3_init {is : List (Nat × Nat × Int32)} {ps : List (Nat × Nat × Nat)} (hd : 1 ≤ d) (hi : zFi is 23) (hp : zFp ps 23) : zSp g l d 24 m_X3_init [.ref 22, .ref 1] (zIl is, zL0, zRl ps, 23) (zV (fun w => w = (zIl (is), zL0, zRl ((22, 0, 1) :: (22, 1, 23) :: ps), 24))) := by
  refine zSp_of (lv := [(0, .ref 22), (1, .ref 1)]) k_X3_init rfl (Nat.le_of_ble_eq_true rfl) ?_
  show zAW g l d 23 24 m_X3_init (zIl is, zL0, zRl ps, 23) 0 [(0, .ref 22), (1, .ref 1)] [] _
  refine zAloadN d_X3_init_0 rfl rfl (q := 1) rfl ?_
  refine zObj d_X3_init_1 ml_X3_3 (by omega) (Nat.le_of_ble_eq_true rfl) (q := 4) rfl ?_
  refine zAloadN d_X3_init_4 rfl rfl (q := 5) rfl ?_
  refine zBipush d_X3_init_5 (v := 24) rfl (q := 7) rfl ?_
  refine yNewI d_X3_init_7 rfl sh_23 hi hp (by decide) (n2 := 24) rfl (q := 9) rfl ?_
  have hi : zFi _ 24 := zFiS hi
  have hp : zFp _ 24 := zFpS hp
  first | refine yPutF d_X3_init_9 ff_X3_9 rfl rfl rfl (fun _ => rfl) (fun _ => rfl) sh_22 (by decide) (q := 12) rfl ?_ | refine yPutR d_X3_init_9 ff_X3_9 rfl (fun _ => rfl) (fun _ => rfl) rfl rfl sh_22 (by decide) (q := 12) rfl ?_
  have hp : zFp _ 24 := zFpC (a := 22) (k := 1) (b := 23) (by decide) hp
  refine zAloadN d_X3_init_12 rfl rfl (q := 13) rfl ?_
  refine zAloadN d_X3_init_13 rfl rfl (q := 14) rfl ?_
  first | refine yPutF d_X3_init_14 ff_X3_15 rfl rfl rfl (fun _ => rfl) (fun _ => rfl) sh_22 (by decide) (q := 17) rfl ?_ | refine yPutR d_X3_init_14 ff_X3_15 rfl (fun _ => rfl) (fun _ => rfl) rfl rfl sh_22 (by decide) (q := 17) rfl ?_
  have hp : zFp _ 24 := zFpC (a := 22) (k := 0) (b := 1) (by decide) hp
  refine zVret d_X3_init_17 rfl rfl ?_
  exact ⟨rfl, rfl⟩
theorem sp_X7_init {is : List (Nat × Nat × Int32)} {ps : List (Nat × Nat × Nat)} (hd : 1 ≤ d) (hi : zFi is 25) (hp : zFp ps 25) : zSp g l d 29 m_X7_init [.ref 24] (zIl is, zL0, zRl ps, 25) (zV (fun w => w = (zIl (is), zL0, zRl ((24, 3, 28) :: (24, 2, 27) :: (24, 1, 26) :: (24, 0, 25) :: ps), 29))) := by
  refine zSp_of (lv := [(0, .ref 24)]) k_X7_init rfl (Nat.le_of_ble_eq_true rfl) ?_
  show zAW g l d 25 29 m_X7_init (zIl is, zL0, zRl ps, 25) 0 [(0, .ref 24)] [] _
  refine zAloadN d_X7_init_0 rfl rfl (q := 1) rfl ?_
  refine zObj d_X7_init_1 ml_X7_1 (by omega) (Nat.le_of_ble_eq_true rfl) (q := 4) rfl ?_
  refine zAloadN d_X7_init_4 rfl rfl (q := 5) rfl ?_
  refine zBipush d_X7_init_5 (v := 10) rfl (q := 7) rfl ?_
  refine yNewI d_X7_init_7 rfl sh_25 hi hp (by decide) (n2 := 26) rfl (q := 9) rfl ?_
  have hi : zFi _ 26 := zFiS hi
  have hp : zFp _ 26 := zFpS hp
  first | refine yPutF d_X7_init_9 ff_X7_9 rfl rfl rfl (fun _ => rfl) (fun _ => rfl) sh_24 (by decide) (q := 12) rfl ?_ | refine yPutR d_X7_init_9 ff_X7_9 rfl (fun _ => rfl) (fun _ => rfl) rfl rfl sh_24 (by decide) (q := 12) rfl ?_
  have hp : zFp _ 26 := zFpC (a := 24) (k := 0) (b := 25) (by decide) hp
  refine zAloadN d_X7_init_12 rfl rfl (q := 13) rfl ?_
  refine zBipush d_X7_init_13 (v := 10) rfl (q := 15) rfl ?_
  refine yNewI d_X7_init_15 rfl sh_26 hi hp (by decide) (n2 := 27) rfl (q := 17) rfl ?_
  have hi : zFi _ 27 := zFiS hi
  have hp : zFp _ 27 := zFpS hp
  first | refine yPutF d_X7_init_17 ff_X7_15 rfl rfl rfl (fun _ => rfl) (fun _ => rfl) sh_24 (by decide) (q := 20) rfl ?_ | refine yPutR d_X7_init_17 ff_X7_15 rfl (fun _ => rfl) (fun _ => rfl) rfl rfl sh_24 (by decide) (q := 20) rfl ?_
  have hp : zFp _ 27 := zFpC (a := 24) (k := 1) (b := 26) (by decide) hp
  refine zAloadN d_X7_init_20 rfl rfl (q := 21) rfl ?_
  refine zBipush d_X7_init_21 (v := 10) rfl (q := 23) rfl ?_
  refine yNewI d_X7_init_23 rfl sh_27 hi hp (by decide) (n2 := 28) rfl (q := 25) rfl ?_
  have hi : zFi _ 28 := zFiS hi
  have hp : zFp _ 28 := zFpS hp
  first | refine yPutF d_X7_init_25 ff_X7_18 rfl rfl rfl (fun _ => rfl) (fun _ => rfl) sh_24 (by decide) (q := 28) rfl ?_ | refine yPutR d_X7_init_25 ff_X7_18 rfl (fun _ => rfl) (fun _ => rfl) rfl rfl sh_24 (by decide) (q := 28) rfl ?_
  have hp : zFp _ 28 := zFpC (a := 24) (k := 2) (b := 27) (by decide) hp
  refine zAloadN d_X7_init_28 rfl rfl (q := 29) rfl ?_
  refine zIconst d_X7_init_29 (v := 4) rfl (q := 30) rfl ?_
  refine yNewI d_X7_init_30 rfl sh_28 hi hp (by decide) (n2 := 29) rfl (q := 32) rfl ?_
  have hi : zFi _ 29 := zFiS hi
  have hp : zFp _ 29 := zFpS hp
  first | refine yPutF d_X7_init_32 ff_X7_21 rfl rfl rfl (fun _ => rfl) (fun _ => rfl) sh_24 (by decide) (q := 35) rfl ?_ | refine yPutR d_X7_init_32 ff_X7_21 rfl (fun _ => rfl) (fun _ => rfl) rfl rfl sh_24 (by decide) (q := 35) rfl ?_
  have hp : zFp _ 29 := zFpC (a := 24) (k := 3) (b := 28) (by decide) hp
  refine zVret d_X7_init_35 rfl rfl ?_
  exact ⟨rfl, rfl⟩
theorem sp_X10_init {is : List (Nat × Nat × Int32)} {ps : List (Nat × Nat × Nat)} (hd : 1 ≤ d) (hi : zFi is 30) (hp : zFp ps 30) : zSp g l d 31 m_X10_init [.ref 29] (zIl is, zL0, zRl ps, 30) (zV (fun w => w = (zIl (is), zL0, zRl ((29, 0, 30) :: ps), 31))) := by
  refine zSp_of (lv := [(0, .ref 29)]) k_X10_init rfl (Nat.le_of_ble_eq_true rfl) ?_
  show zAW g l d 30 31 m_X10_init (zIl is, zL0, zRl ps, 30) 0 [(0, .ref 29)] [] _
  refine zAloadN d_X10_init_0 rfl rfl (q := 1) rfl ?_
  refine zObj d_X10_init_1 ml_X10_3 (by omega) (Nat.le_of_ble_eq_true rfl) (q := 4) rfl ?_
  refine zAloadN d_X10_init_4 rfl rfl (q := 5) rfl ?_
  refine zBipush d_X10_init_5 (v := 120) rfl (q := 7) rfl ?_
  refine yNewI d_X10_init_7 rfl sh_30 hi hp (by decide) (n2 := 31) rfl (q := 9) rfl ?_
  have hi : zFi _ 31 := zFiS hi
  have hp : zFp _ 31 := zFpS hp
  first | refine yPutF d_X10_init_9 ff_X10_11 rfl rfl rfl (fun _ => rfl) (fun _ => rfl) sh_29 (by decide) (q := 12) rfl ?_ | refine yPutR d_X10_init_9 ff_X10_11 rfl (fun _ => rfl) (fun _ => rfl) rfl rfl sh_29 (by decide) (q := 12) rfl ?_
  have hp : zFp _ 31 := zFpC (a := 29) (k := 0) (b := 30) (by decide) hp
  refine zVret d_X10_init_12 rfl rfl ?_
  exact ⟨rfl, rfl⟩
theorem sp_X1_init {is : List (Nat × Nat × Int32)} {ps : List (Nat × Nat × Nat)} (hd : 1 ≤ d) (hi : zFi is 32) (hp : zFp ps 32) : zSp g l d 36 m_X1_init [.ref 31] (zIl is, zL0, zRl ps, 32) (zV (fun w => w = (zIl (is), zL0, zRl ((31, 3, 35) :: (31, 2, 34) :: (31, 1, 33) :: (31, 0, 32) :: ps), 36))) := by
  refine zSp_of (lv := [(0, .ref 31)]) k_X1_init rfl (Nat.le_of_ble_eq_true rfl) ?_
  show zAW g l d 32 36 m_X1_init (zIl is, zL0, zRl ps, 32) 0 [(0, .ref 31)] [] _
  refine zAloadN d_X1_init_0 rfl rfl (q := 1) rfl ?_
  refine zObj d_X1_init_1 ml_X1_3 (by omega) (Nat.le_of_ble_eq_true rfl) (q := 4) rfl ?_
  refine zAloadN d_X1_init_4 rfl rfl (q := 5) rfl ?_
  refine zBipush d_X1_init_5 (v := 40) rfl (q := 7) rfl ?_
  refine yNewI d_X1_init_7 rfl sh_32 hi hp (by decide) (n2 := 33) rfl (q := 9) rfl ?_
  have hi : zFi _ 33 := zFiS hi
  have hp : zFp _ 33 := zFpS hp
  first | refine yPutF d_X1_init_9 ff_X1_11 rfl rfl rfl (fun _ => rfl) (fun _ => rfl) sh_31 (by decide) (q := 12) rfl ?_ | refine yPutR d_X1_init_9 ff_X1_11 rfl (fun _ => rfl) (fun _ => rfl) rfl rfl sh_31 (by decide) (q := 12) rfl ?_
  have hp : zFp _ 33 := zFpC (a := 31) (k := 0) (b := 32) (by decide) hp
  refine zAloadN d_X1_init_12 rfl rfl (q := 13) rfl ?_
  refine zBipush d_X1_init_13 (v := 40) rfl (q := 15) rfl ?_
  refine yNewI d_X1_init_15 rfl sh_33 hi hp (by decide) (n2 := 34) rfl (q := 17) rfl ?_
  have hi : zFi _ 34 := zFiS hi
  have hp : zFp _ 34 := zFpS hp
  first | refine yPutF d_X1_init_17 ff_X1_15 rfl rfl rfl (fun _ => rfl) (fun _ => rfl) sh_31 (by decide) (q := 20) rfl ?_ | refine yPutR d_X1_init_17 ff_X1_15 rfl (fun _ => rfl) (fun _ => rfl) rfl rfl sh_31 (by decide) (q := 20) rfl ?_
  have hp : zFp _ 34 := zFpC (a := 31) (k := 1) (b := 33) (by decide) hp
  refine zAloadN d_X1_init_20 rfl rfl (q := 21) rfl ?_
  refine zBipush d_X1_init_21 (v := 40) rfl (q := 23) rfl ?_
  refine yNewI d_X1_init_23 rfl sh_34 hi hp (by decide) (n2 := 35) rfl (q := 25) rfl ?_
  have hi : zFi _ 35 := zFiS hi
  have hp : zFp _ 35 := zFpS hp
  first | refine yPutF d_X1_init_25 ff_X1_18 rfl rfl rfl (fun _ => rfl) (fun _ => rfl) sh_31 (by decide) (q := 28) rfl ?_ | refine yPutR d_X1_init_25 ff_X1_18 rfl (fun _ => rfl) (fun _ => rfl) rfl rfl sh_31 (by decide) (q := 28) rfl ?_
  have hp : zFp _ 35 := zFpC (a := 31) (k := 2) (b := 34) (by decide) hp
  refine zAloadN d_X1_init_28 rfl rfl (q := 29) rfl ?_
  refine zBipush d_X1_init_29 (v := 40) rfl (q := 31) rfl ?_
  refine yNewI d_X1_init_31 rfl sh_35 hi hp (by decide) (n2 := 36) rfl (q := 33) rfl ?_
  have hi : zFi _ 36 := zFiS hi
  have hp : zFp _ 36 := zFpS hp
  first | refine yPutF d_X1_init_33 ff_X1_21 rfl rfl rfl (fun _ => rfl) (fun _ => rfl) sh_31 (by decide) (q := 36) rfl ?_ | refine yPutR d_X1_init_33 ff_X1_21 rfl (fun _ => rfl) (fun _ => rfl) rfl rfl sh_31 (by decide) (q := 36) rfl ?_
  have hp : zFp _ 36 := zFpC (a := 31) (k := 3) (b := 35) (by decide) hp
  refine zVret d_X1_init_36 rfl rfl ?_
  exact ⟨rfl, rfl⟩
theorem sp_X5_init {is : List (Nat × Nat × Int32)} {ps : List (Nat × Nat × Nat)} (hd : 1 ≤ d) (hi : zFi is 37) (hp : zFp ps 37) : zSp g l d 38 m_X5_init [.ref 36] (zIl is, zL0, zRl ps, 37) (zV (fun w => w = (zIl (is), zL0, zRl ((36, 0, 37) :: ps), 38))) := by
  refine zSp_of (lv := [(0, .ref 36)]) k_X5_init rfl (Nat.le_of_ble_eq_true rfl) ?_
  show zAW g l d 37 38 m_X5_init (zIl is, zL0, zRl ps, 37) 0 [(0, .ref 36)] [] _
  refine zAloadN d_X5_init_0 rfl rfl (q := 1) rfl ?_
  refine zObj d_X5_init_1 ml_X5_1 (by omega) (Nat.le_of_ble_eq_true rfl) (q := 4) rfl ?_
  refine zAloadN d_X5_init_4 rfl rfl (q := 5) rfl ?_
  refine zIconst d_X5_init_5 (v := 5) rfl (q := 6) rfl ?_
  refine yNewI d_X5_init_6 rfl sh_37 hi hp (by decide) (n2 := 38) rfl (q := 8) rfl ?_
  have hi : zFi _ 38 := zFiS hi
  have hp : zFp _ 38 := zFpS hp
  first | refine yPutF d_X5_init_8 ff_X5_9 rfl rfl rfl (fun _ => rfl) (fun _ => rfl) sh_36 (by decide) (q := 11) rfl ?_ | refine yPutR d_X5_init_8 ff_X5_9 rfl (fun _ => rfl) (fun _ => rfl) rfl rfl sh_36 (by decide) (q := 11) rfl ?_
  have hp : zFp _ 38 := zFpC (a := 36) (k := 0) (b := 37) (by decide) hp
  refine zVret d_X5_init_11 rfl rfl ?_
  exact ⟨rfl, rfl⟩
theorem sp_X0_init {is : List (Nat × Nat × Int32)} {ps : List (Nat × Nat × Nat)} (hd : 1 ≤ d) (hi : zFi is 39) (hp : zFp ps 39) : zSp g l d 41 m_X0_init [.ref 38] (zIl is, zL0, zRl ps, 39) (zV (fun w => w = (zIl (is), zL0, zRl ((38, 1, 40) :: (38, 0, 39) :: ps), 41))) := by
  refine zSp_of (lv := [(0, .ref 38)]) k_X0_init rfl (Nat.le_of_ble_eq_true rfl) ?_
  show zAW g l d 39 41 m_X0_init (zIl is, zL0, zRl ps, 39) 0 [(0, .ref 38)] [] _
  refine zAloadN d_X0_init_0 rfl rfl (q := 1) rfl ?_
  refine zObj d_X0_init_1 ml_X0_3 (by omega) (Nat.le_of_ble_eq_true rfl) (q := 4) rfl ?_
  refine zAloadN d_X0_init_4 rfl rfl (q := 5) rfl ?_
  refine zBipush d_X0_init_5 (v := 50) rfl (q := 7) rfl ?_
  refine yNewI d_X0_init_7 rfl sh_39 hi hp (by decide) (n2 := 40) rfl (q := 9) rfl ?_
  have hi : zFi _ 40 := zFiS hi
  have hp : zFp _ 40 := zFpS hp
  first | refine yPutF d_X0_init_9 ff_X0_11 rfl rfl rfl (fun _ => rfl) (fun _ => rfl) sh_38 (by decide) (q := 12) rfl ?_ | refine yPutR d_X0_init_9 ff_X0_11 rfl (fun _ => rfl) (fun _ => rfl) rfl rfl sh_38 (by decide) (q := 12) rfl ?_
  have hp : zFp _ 40 := zFpC (a := 38) (k := 0) (b := 39) (by decide) hp
  refine zAloadN d_X0_init_12 rfl rfl (q := 13) rfl ?_
  refine zBipush d_X0_init_13 (v := 24) rfl (q := 15) rfl ?_
  refine yNewI d_X0_init_15 rfl sh_40 hi hp (by decide) (n2 := 41) rfl (q := 17) rfl ?_
  have hi : zFi _ 41 := zFiS hi
  have hp : zFp _ 41 := zFpS hp
  first | refine yPutF d_X0_init_17 ff_X0_15 rfl rfl rfl (fun _ => rfl) (fun _ => rfl) sh_38 (by decide) (q := 20) rfl ?_ | refine yPutR d_X0_init_17 ff_X0_15 rfl (fun _ => rfl) (fun _ => rfl) rfl rfl sh_38 (by decide) (q := 20) rfl ?_
  have hp : zFp _ 41 := zFpC (a := 38) (k := 1) (b := 40) (by decide) hp
  refine zVret d_X0_init_20 rfl rfl ?_
  exact ⟨rfl, rfl⟩
theorem sp_X8_init {a : Nat} {is : List (Nat × Nat × Int32)} {ps : List (Nat × Nat × Nat)} (hd : 1 ≤ d) (hs0 : zsh a = (8, 4)) (hs1 : zsh (a + 1) = (21, 60)) (hi : zFi is (a + 1)) (hp : zFp ps (a + 1)) : zSp g l d (a + 2) m_X8_init [.ref a] (zIl is, zL0, zRl ps, (a + 1)) (zV (fun w => w = (zIl ((a, 1, -1) :: is), zL0, zRl ((a, 0, (a + 1)) :: ps), (a + 2)))) := by
  refine zSp_of (lv := [(0, .ref a)]) k_X8_init rfl (Nat.le_of_ble_eq_true rfl) ?_
  show zAW g l d (a + 1) (a + 2) m_X8_init (zIl is, zL0, zRl ps, (a + 1)) 0 [(0, .ref a)] [] _
  refine zAloadN d_X8_init_0 rfl rfl (q := 1) rfl ?_
  refine zObj d_X8_init_1 ml_X8_3 (by omega) (Nat.le_of_ble_eq_true rfl) (q := 4) rfl ?_
  refine zAloadN d_X8_init_4 rfl rfl (q := 5) rfl ?_
  refine zBipush d_X8_init_5 (v := 60) rfl (q := 7) rfl ?_
  refine yNewL d_X8_init_7 rfl hs1 hi hp (by omega) (n2 := (a + 2)) rfl (q := 9) rfl ?_
  have hi : zFi _ (a + 2) := zFiS hi
  have hp : zFp _ (a + 2) := zFpS hp
  first | refine yPutF d_X8_init_9 ff_X8_11 rfl rfl rfl (fun _ => rfl) (fun _ => rfl) hs0 (by omega) (q := 12) rfl ?_ | refine yPutR d_X8_init_9 ff_X8_11 rfl (fun _ => rfl) (fun _ => rfl) rfl rfl hs0 (by omega) (q := 12) rfl ?_
  have hp : zFp _ (a + 2) := zFpC (a := a) (k := 0) (b := (a + 1)) (by omega) hp
  refine zAloadN d_X8_init_12 rfl rfl (q := 13) rfl ?_
  refine zIconst d_X8_init_13 (v := -1) rfl (q := 14) rfl ?_
  refine yPutI d_X8_init_14 ff_X8_15 rfl rfl rfl hs0 (by omega) (q := 17) rfl ?_
  have hi : zFi _ (a + 2) := zFiC (a := a) (k := 1) (x := -1) (by omega) hi
  refine zVret d_X8_init_17 rfl rfl ?_
  exact ⟨rfl, rfl⟩
theorem sp_X6_init {a : Nat} {is : List (Nat × Nat × Int32)} {ps : List (Nat × Nat × Nat)} (hd : 1 ≤ d) (hs0 : zsh a = (6, 5)) (hs1 : zsh (a + 1) = (20, 128)) (hs2 : zsh (a + 2) = (20, 128)) (hs3 : zsh (a + 3) = (20, 128)) (hs4 : zsh (a + 4) = (20, 6)) (hi : zFi is (a + 1)) (hp : zFp ps (a + 1)) : zSp g l d (a + 5) m_X6_init [.ref a] (zIl is, zL0, zRl ps, (a + 1)) (zV (fun w => w = (zIl (is), zL0, zRl ((a, 3, (a + 4)) :: (a, 2, (a + 3)) :: (a, 1, (a + 2)) :: (a, 0, (a + 1)) :: ps), (a + 5)))) := by
  refine zSp_of (lv := [(0, .ref a)]) k_X6_init rfl (Nat.le_of_ble_eq_true rfl) ?_
  show zAW g l d (a + 1) (a + 5) m_X6_init (zIl is, zL0, zRl ps, (a + 1)) 0 [(0, .ref a)] [] _
  refine zAloadN d_X6_init_0 rfl rfl (q := 1) rfl ?_
  refine zObj d_X6_init_1 ml_X6_1 (by omega) (Nat.le_of_ble_eq_true rfl) (q := 4) rfl ?_
  refine zAloadN d_X6_init_4 rfl rfl (q := 5) rfl ?_
  refine zSipush d_X6_init_5 (v := 128) rfl (q := 8) rfl ?_
  refine yNewI d_X6_init_8 rfl hs1 hi hp (by omega) (n2 := (a + 2)) rfl (q := 10) rfl ?_
  have hi : zFi _ (a + 2) := zFiS hi
  have hp : zFp _ (a + 2) := zFpS hp
  first | refine yPutF d_X6_init_10 ff_X6_9 rfl rfl rfl (fun _ => rfl) (fun _ => rfl) hs0 (by omega) (q := 13) rfl ?_ | refine yPutR d_X6_init_10 ff_X6_9 rfl (fun _ => rfl) (fun _ => rfl) rfl rfl hs0 (by omega) (q := 13) rfl ?_
  have hp : zFp _ (a + 2) := zFpC (a := a) (k := 0) (b := (a + 1)) (by omega) hp
  refine zAloadN d_X6_init_13 rfl rfl (q := 14) rfl ?_
  refine zSipush d_X6_init_14 (v := 128) rfl (q := 17) rfl ?_
  refine yNewI d_X6_init_17 rfl hs2 hi hp (by omega) (n2 := (a + 3)) rfl (q := 19) rfl ?_
  have hi : zFi _ (a + 3) := zFiS hi
  have hp : zFp _ (a + 3) := zFpS hp
  first | refine yPutF d_X6_init_19 ff_X6_13 rfl rfl rfl (fun _ => rfl) (fun _ => rfl) hs0 (by omega) (q := 22) rfl ?_ | refine yPutR d_X6_init_19 ff_X6_13 rfl (fun _ => rfl) (fun _ => rfl) rfl rfl hs0 (by omega) (q := 22) rfl ?_
  have hp : zFp _ (a + 3) := zFpC (a := a) (k := 1) (b := (a + 2)) (by omega) hp
  refine zAloadN d_X6_init_22 rfl rfl (q := 23) rfl ?_
  refine zSipush d_X6_init_23 (v := 128) rfl (q := 26) rfl ?_
  refine yNewI d_X6_init_26 rfl hs3 hi hp (by omega) (n2 := (a + 4)) rfl (q := 28) rfl ?_
  have hi : zFi _ (a + 4) := zFiS hi
  have hp : zFp _ (a + 4) := zFpS hp
  first | refine yPutF d_X6_init_28 ff_X6_16 rfl rfl rfl (fun _ => rfl) (fun _ => rfl) hs0 (by omega) (q := 31) rfl ?_ | refine yPutR d_X6_init_28 ff_X6_16 rfl (fun _ => rfl) (fun _ => rfl) rfl rfl hs0 (by omega) (q := 31) rfl ?_
  have hp : zFp _ (a + 4) := zFpC (a := a) (k := 2) (b := (a + 3)) (by omega) hp
  refine zAloadN d_X6_init_31 rfl rfl (q := 32) rfl ?_
  refine zBipush d_X6_init_32 (v := 6) rfl (q := 34) rfl ?_
  refine yNewI d_X6_init_34 rfl hs4 hi hp (by omega) (n2 := (a + 5)) rfl (q := 36) rfl ?_
  have hi : zFi _ (a + 5) := zFiS hi
  have hp : zFp _ (a + 5) := zFpS hp
  first | refine yPutF d_X6_init_36 ff_X6_19 rfl rfl rfl (fun _ => rfl) (fun _ => rfl) hs0 (by omega) (q := 39) rfl ?_ | refine yPutR d_X6_init_36 ff_X6_19 rfl (fun _ => rfl) (fun _ => rfl) rfl rfl hs0 (by omega) (q := 39) rfl ?_
  have hp : zFp _ (a + 5) := zFpC (a := a) (k := 3) (b := (a + 4)) (by omega) hp
  refine zVret d_X6_init_39 rfl rfl ?_
  exact ⟨rfl, rfl⟩
end S98
