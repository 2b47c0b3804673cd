theorem d_X12_back_0 : decode (zmc m_X12_back) 0 = .ok (.aload_n 0, 1) := by decide +kernel
theorem d_X12_back_1 : decode (zmc m_X12_back) 1 = .ok (.getfield 358, 3) := by decide +kernel
theorem d_X12_back_4 : decode (zmc m_X12_back) 4 = .ok (.ifCond .ne 6, 3) := by decide +kernel
theorem d_X12_back_7 : decode (zmc m_X12_back) 7 = .ok (.bipush (-5), 2) := by decide +kernel
theorem d_X12_back_9 : decode (zmc m_X12_back) 9 = .ok (.ireturn, 1) := by decide +kernel
theorem d_X12_back_10 : decode (zmc m_X12_back) 10 = .ok (.iconst 0, 1) := by decide +kernel
theorem d_X12_back_11 : decode (zmc m_X12_back) 11 = .ok (.istore_n 1, 1) := by decide +kernel
theorem d_X12_back_12 : decode (zmc m_X12_back) 12 = .ok (.iload_n 1, 1) := by decide +kernel
theorem d_X12_back_13 : decode (zmc m_X12_back) 13 = .ok (.aload_n 0, 1) := by decide +kernel
theorem d_X12_back_14 : decode (zmc m_X12_back) 14 = .ok (.getfield 361, 3) := by decide +kernel
theorem d_X12_back_17 : decode (zmc m_X12_back) 17 = .ok (.if_icmp .ge 37, 3) := by decide +kernel
theorem d_X12_back_20 : decode (zmc m_X12_back) 20 = .ok (.aload_n 0, 1) := by decide +kernel
theorem d_X12_back_21 : decode (zmc m_X12_back) 21 = .ok (.getfield 24, 3) := by decide +kernel
theorem d_X12_back_24 : decode (zmc m_X12_back) 24 = .ok (.iload_n 1, 1) := by decide +kernel
theorem d_X12_back_25 : decode (zmc m_X12_back) 25 = .ok (.aload_n 0, 1) := by decide +kernel
theorem d_X12_back_26 : decode (zmc m_X12_back) 26 = .ok (.getfield 364, 3) := by decide +kernel
theorem d_X12_back_29 : decode (zmc m_X12_back) 29 = .ok (.iload_n 1, 1) := by decide +kernel
theorem d_X12_back_30 : decode (zmc m_X12_back) 30 = .ok (.ishr, 1) := by decide +kernel
theorem d_X12_back_31 : decode (zmc m_X12_back) 31 = .ok (.iconst 1, 1) := by decide +kernel
theorem d_X12_back_32 : decode (zmc m_X12_back) 32 = .ok (.iand, 1) := by decide +kernel
theorem d_X12_back_33 : decode (zmc m_X12_back) 33 = .ok (.iastore, 1) := by decide +kernel
theorem d_X12_back_34 : decode (zmc m_X12_back) 34 = .ok (.aload_n 0, 1) := by decide +kernel
theorem d_X12_back_35 : decode (zmc m_X12_back) 35 = .ok (.getfield 27, 3) := by decide +kernel
theorem d_X12_back_38 : decode (zmc m_X12_back) 38 = .ok (.iload_n 1, 1) := by decide +kernel
theorem d_X12_back_39 : decode (zmc m_X12_back) 39 = .ok (.aload_n 0, 1) := by decide +kernel
theorem d_X12_back_40 : decode (zmc m_X12_back) 40 = .ok (.getfield 367, 3) := by decide +kernel
theorem d_X12_back_43 : decode (zmc m_X12_back) 43 = .ok (.iload_n 1, 1) := by decide +kernel
theorem d_X12_back_44 : decode (zmc m_X12_back) 44 = .ok (.ishr, 1) := by decide +kernel
theorem d_X12_back_45 : decode (zmc m_X12_back) 45 = .ok (.iconst 1, 1) := by decide +kernel
theorem d_X12_back_46 : decode (zmc m_X12_back) 46 = .ok (.iand, 1) := by decide +kernel
theorem d_X12_back_47 : decode (zmc m_X12_back) 47 = .ok (.iastore, 1) := by decide +kernel
theorem d_X12_back_48 : decode (zmc m_X12_back) 48 = .ok (.iinc 1 1, 3) := by decide +kernel
theorem d_X12_back_51 : decode (zmc m_X12_back) 51 = .ok (.goto (-39), 3) := by decide +kernel
theorem d_X12_back_54 : decode (zmc m_X12_back) 54 = .ok (.aload_n 0, 1) := by decide +kernel
theorem d_X12_back_55 : decode (zmc m_X12_back) 55 = .ok (.getfield 39, 3) := by decide +kernel
theorem d_X12_back_58 : decode (zmc m_X12_back) 58 = .ok (.iconst 0, 1) := by decide +kernel
theorem d_X12_back_59 : decode (zmc m_X12_back) 59 = .ok (.aload_n 0, 1) := by decide +kernel
theorem d_X12_back_60 : decode (zmc m_X12_back) 60 = .ok (.getfield 370, 3) := by decide +kernel
theorem d_X12_back_63 : decode (zmc m_X12_back) 63 = .ok (.iastore, 1) := by decide +kernel
theorem d_X12_back_64 : decode (zmc m_X12_back) 64 = .ok (.aload_n 0, 1) := by decide +kernel
theorem d_X12_back_65 : decode (zmc m_X12_back) 65 = .ok (.getfield 39, 3) := by decide +kernel
theorem d_X12_back_68 : decode (zmc m_X12_back) 68 = .ok (.iconst 2, 1) := by decide +kernel
theorem d_X12_back_69 : decode (zmc m_X12_back) 69 = .ok (.aload_n 0, 1) := by decide +kernel
theorem d_X12_back_70 : decode (zmc m_X12_back) 70 = .ok (.getfield 373, 3) := by decide +kernel
theorem d_X12_back_73 : decode (zmc m_X12_back) 73 = .ok (.iastore, 1) := by decide +kernel
theorem d_X12_back_74 : decode (zmc m_X12_back) 74 = .ok (.iconst 0, 1) := by decide +kernel
theorem d_X12_back_75 : decode (zmc m_X12_back) 75 = .ok (.istore_n 1, 1) := by decide +kernel
theorem d_X12_back_76 : decode (zmc m_X12_back) 76 = .ok (.iload_n 1, 1) := by decide +kernel
theorem d_X12_back_77 : decode (zmc m_X12_back) 77 = .ok (.iconst 5, 1) := by decide +kernel
theorem d_X12_back_78 : decode (zmc m_X12_back) 78 = .ok (.if_icmp .ge 21, 3) := by decide +kernel
theorem d_X12_back_81 : decode (zmc m_X12_back) 81 = .ok (.aload_n 0, 1) := by decide +kernel
theorem d_X12_back_82 : decode (zmc m_X12_back) 82 = .ok (.getfield 95, 3) := by decide +kernel
theorem d_X12_back_85 : decode (zmc m_X12_back) 85 = .ok (.iload_n 1, 1) := by decide +kernel
theorem d_X12_back_86 : decode (zmc m_X12_back) 86 = .ok (.aload_n 0, 1) := by decide +kernel
theorem d_X12_back_87 : decode (zmc m_X12_back) 87 = .ok (.getfield 98, 3) := by decide +kernel
theorem d_X12_back_90 : decode (zmc m_X12_back) 90 = .ok (.iload_n 1, 1) := by decide +kernel
theorem d_X12_back_91 : decode (zmc m_X12_back) 91 = .ok (.iaload, 1) := by decide +kernel
theorem d_X12_back_92 : decode (zmc m_X12_back) 92 = .ok (.iastore, 1) := by decide +kernel
theorem d_X12_back_93 : decode (zmc m_X12_back) 93 = .ok (.iinc 1 1, 3) := by decide +kernel
theorem d_X12_back_96 : decode (zmc m_X12_back) 96 = .ok (.goto (-20), 3) := by decide +kernel
theorem d_X12_back_99 : decode (zmc m_X12_back) 99 = .ok (.aload_n 0, 1) := by decide +kernel
theorem d_X12_back_100 : decode (zmc m_X12_back) 100 = .ok (.getfield 95, 3) := by decide +kernel
theorem d_X12_back_103 : decode (zmc m_X12_back) 103 = .ok (.iconst 0, 1) := by decide +kernel
theorem d_X12_back_104 : decode (zmc m_X12_back) 104 = .ok (.iaload, 1) := by decide +kernel
theorem d_X12_back_105 : decode (zmc m_X12_back) 105 = .ok (.ireturn, 1) := by decide +kernel
theorem d_X12_image_0 : decode (zmc m_X12_image) 0 = .ok (.aload_n 0, 1) := by decide +kernel
theorem d_X12_image_1 : decode (zmc m_X12_image) 1 = .ok (.iconst 1, 1) := by decide +kernel
theorem d_X12_image_2 : decode (zmc m_X12_image) 2 = .ok (.putfield 358, 3) := by decide +kernel
theorem d_X12_image_5 : decode (zmc m_X12_image) 5 = .ok (.aload_n 0, 1) := by decide +kernel
theorem d_X12_image_6 : decode (zmc m_X12_image) 6 = .ok (.aload_n 0, 1) := by decide +kernel
theorem d_X12_image_7 : decode (zmc m_X12_image) 7 = .ok (.getfield 124, 3) := by decide +kernel
theorem d_X12_image_10 : decode (zmc m_X12_image) 10 = .ok (.putfield 361, 3) := by decide +kernel
theorem d_X12_image_13 : decode (zmc m_X12_image) 13 = .ok (.aload_n 0, 1) := by decide +kernel
theorem d_X12_image_14 : decode (zmc m_X12_image) 14 = .ok (.aload_n 0, 1) := by decide +kernel
theorem d_X12_image_15 : decode (zmc m_X12_image) 15 = .ok (.invokevirtual 321, 3) := by decide +kernel
theorem d_X12_image_18 : decode (zmc m_X12_image) 18 = .ok (.putfield 364, 3) := by decide +kernel
theorem d_X12_image_21 : decode (zmc m_X12_image) 21 = .ok (.aload_n 0, 1) := by decide +kernel
theorem d_X12_image_22 : decode (zmc m_X12_image) 22 = .ok (.iconst 1, 1) := by decide +kernel
theorem d_X12_image_23 : decode (zmc m_X12_image) 23 = .ok (.aload_n 0, 1) := by decide +kernel
theorem d_X12_image_24 : decode (zmc m_X12_image) 24 = .ok (.getfield 124, 3) := by decide +kernel
theorem d_X12_image_27 : decode (zmc m_X12_image) 27 = .ok (.ishl, 1) := by decide +kernel
theorem d_X12_image_28 : decode (zmc m_X12_image) 28 = .ok (.iconst 1, 1) := by decide +kernel
theorem d_X12_image_29 : decode (zmc m_X12_image) 29 = .ok (.isub, 1) := by decide +kernel
theorem d_X12_image_30 : decode (zmc m_X12_image) 30 = .ok (.aload_n 0, 1) := by decide +kernel
theorem d_X12_image_31 : decode (zmc m_X12_image) 31 = .ok (.invokevirtual 333, 3) := by decide +kernel
theorem d_X12_image_34 : decode (zmc m_X12_image) 34 = .ok (.iconst (-1), 1) := by decide +kernel
theorem d_X12_image_35 : decode (zmc m_X12_image) 35 = .ok (.ixor, 1) := by decide +kernel
theorem d_X12_image_36 : decode (zmc m_X12_image) 36 = .ok (.iand, 1) := by decide +kernel
theorem d_X12_image_37 : decode (zmc m_X12_image) 37 = .ok (.putfield 367, 3) := by decide +kernel
theorem d_X12_image_40 : decode (zmc m_X12_image) 40 = .ok (.aload_n 0, 1) := by decide +kernel
theorem d_X12_image_41 : decode (zmc m_X12_image) 41 = .ok (.aload_n 0, 1) := by decide +kernel
theorem d_X12_image_42 : decode (zmc m_X12_image) 42 = .ok (.getfield 39, 3) := by decide +kernel
theorem d_X12_image_45 : decode (zmc m_X12_image) 45 = .ok (.iconst 0, 1) := by decide +kernel
theorem d_X12_image_46 : decode (zmc m_X12_image) 46 = .ok (.iaload, 1) := by decide +kernel
theorem d_X12_image_47 : decode (zmc m_X12_image) 47 = .ok (.putfield 370, 3) := by decide +kernel
theorem d_X12_image_50 : decode (zmc m_X12_image) 50 = .ok (.aload_n 0, 1) := by decide +kernel
theorem d_X12_image_51 : decode (zmc m_X12_image) 51 = .ok (.aload_n 0, 1) := by decide +kernel
theorem d_X12_image_52 : decode (zmc m_X12_image) 52 = .ok (.getfield 39, 3) := by decide +kernel
theorem d_X12_image_55 : decode (zmc m_X12_image) 55 = .ok (.iconst 2, 1) := by decide +kernel
theorem d_X12_image_56 : decode (zmc m_X12_image) 56 = .ok (.iaload, 1) := by decide +kernel
theorem d_X12_image_57 : decode (zmc m_X12_image) 57 = .ok (.putfield 373, 3) := by decide +kernel
theorem d_X12_image_60 : decode (zmc m_X12_image) 60 = .ok (.iconst 0, 1) := by decide +kernel
theorem d_X12_image_61 : decode (zmc m_X12_image) 61 = .ok (.istore_n 1, 1) := by decide +kernel
theorem d_X12_image_62 : decode (zmc m_X12_image) 62 = .ok (.iload_n 1, 1) := by decide +kernel
theorem d_X12_image_63 : decode (zmc m_X12_image) 63 = .ok (.iconst 5, 1) := by decide +kernel
theorem d_X12_image_64 : decode (zmc m_X12_image) 64 = .ok (.if_icmp .ge 21, 3) := by decide +kernel
theorem d_X12_image_67 : decode (zmc m_X12_image) 67 = .ok (.aload_n 0, 1) := by decide +kernel
theorem d_X12_image_68 : decode (zmc m_X12_image) 68 = .ok (.getfield 98, 3) := by decide +kernel
theorem d_X12_image_71 : decode (zmc m_X12_image) 71 = .ok (.iload_n 1, 1) := by decide +kernel
theorem d_X12_image_72 : decode (zmc m_X12_image) 72 = .ok (.aload_n 0, 1) := by decide +kernel
theorem d_X12_image_73 : decode (zmc m_X12_image) 73 = .ok (.getfield 95, 3) := by decide +kernel
theorem d_X12_image_76 : decode (zmc m_X12_image) 76 = .ok (.iload_n 1, 1) := by decide +kernel
theorem d_X12_image_77 : decode (zmc m_X12_image) 77 = .ok (.iaload, 1) := by decide +kernel
theorem d_X12_image_78 : decode (zmc m_X12_image) 78 = .ok (.iastore, 1) := by decide +kernel
theorem d_X12_image_79 : decode (zmc m_X12_image) 79 = .ok (.iinc 1 1, 3) := by decide +kernel
theorem d_X12_image_82 : decode (zmc m_X12_image) 82 = .ok (.goto (-20), 3) := by decide +kernel
theorem d_X12_image_85 : decode (zmc m_X12_image) 85 = .ok (.aload_n 0, 1) := by decide +kernel
theorem d_X12_image_86 : decode (zmc m_X12_image) 86 = .ok (.getfield 95, 3) := by decide +kernel
theorem d_X12_image_89 : decode (zmc m_X12_image) 89 = .ok (.iconst 0, 1) := by decide +kernel
theorem d_X12_image_90 : decode (zmc m_X12_image) 90 = .ok (.iaload, 1) := by decide +kernel
theorem d_X12_image_91 : decode (zmc m_X12_image) 91 = .ok (.ireturn, 1) := by decide +kernel
theorem d_X12_pass_0 : decode (zmc m_X12_pass) 0 = .ok (.iload_n 1, 1) := by decide +kernel
theorem d_X12_pass_1 : decode (zmc m_X12_pass) 1 = .ok (.iconst 1, 1) := by decide +kernel
theorem d_X12_pass_2 : decode (zmc m_X12_pass) 2 = .ok (.sipush 999, 3) := by decide +kernel
theorem d_X12_pass_5 : decode (zmc m_X12_pass) 5 = .ok (.invokestatic 127, 3) := by decide +kernel
theorem d_X12_pass_8 : decode (zmc m_X12_pass) 8 = .ok (.ifCond .ne 5, 3) := by decide +kernel
theorem d_X12_pass_11 : decode (zmc m_X12_pass) 11 = .ok (.iconst (-1), 1) := by decide +kernel
theorem d_X12_pass_12 : decode (zmc m_X12_pass) 12 = .ok (.ireturn, 1) := by decide +kernel
theorem d_X12_pass_13 : decode (zmc m_X12_pass) 13 = .ok (.aload_n 0, 1) := by decide +kernel
theorem d_X12_pass_14 : decode (zmc m_X12_pass) 14 = .ok (.iload_n 1, 1) := by decide +kernel
theorem d_X12_pass_15 : decode (zmc m_X12_pass) 15 = .ok (.invokevirtual 355, 3) := by decide +kernel
theorem d_X12_pass_18 : decode (zmc m_X12_pass) 18 = .ok (.aload_n 0, 1) := by decide +kernel
theorem d_X12_pass_19 : decode (zmc m_X12_pass) 19 = .ok (.getfield 95, 3) := by decide +kernel
theorem d_X12_pass_22 : decode (zmc m_X12_pass) 22 = .ok (.iconst 4, 1) := by decide +kernel
theorem d_X12_pass_23 : decode (zmc m_X12_pass) 23 = .ok (.dup2, 1) := by decide +kernel
theorem d_X12_pass_24 : decode (zmc m_X12_pass) 24 = .ok (.iaload, 1) := by decide +kernel
theorem d_X12_pass_25 : decode (zmc m_X12_pass) 25 = .ok (.iload_n 1, 1) := by decide +kernel
theorem d_X12_pass_26 : decode (zmc m_X12_pass) 26 = .ok (.iadd, 1) := by decide +kernel
theorem d_X12_pass_27 : decode (zmc m_X12_pass) 27 = .ok (.iastore, 1) := by decide +kernel
theorem d_X12_pass_28 : decode (zmc m_X12_pass) 28 = .ok (.iconst 0, 1) := by decide +kernel
theorem d_X12_pass_29 : decode (zmc m_X12_pass) 29 = .ok (.istore_n 2, 1) := by decide +kernel
theorem d_X12_pass_30 : decode (zmc m_X12_pass) 30 = .ok (.iconst 0, 1) := by decide +kernel
theorem d_X12_pass_31 : decode (zmc m_X12_pass) 31 = .ok (.istore_n 3, 1) := by decide +kernel
theorem d_X12_pass_32 : decode (zmc m_X12_pass) 32 = .ok (.iload_n 3, 1) := by decide +kernel
theorem d_X12_pass_33 : decode (zmc m_X12_pass) 33 = .ok (.aload_n 0, 1) := by decide +kernel
theorem d_X12_pass_34 : decode (zmc m_X12_pass) 34 = .ok (.getfield 124, 3) := by decide +kernel
theorem d_X12_pass_37 : decode (zmc m_X12_pass) 37 = .ok (.if_icmp .ge 45, 3) := by decide +kernel
theorem d_X12_pass_40 : decode (zmc m_X12_pass) 40 = .ok (.aload_n 0, 1) := by decide +kernel
theorem d_X12_pass_41 : decode (zmc m_X12_pass) 41 = .ok (.getfield 24, 3) := by decide +kernel
theorem d_X12_pass_44 : decode (zmc m_X12_pass) 44 = .ok (.iload_n 3, 1) := by decide +kernel
theorem d_X12_pass_45 : decode (zmc m_X12_pass) 45 = .ok (.iaload, 1) := by decide +kernel
theorem d_X12_pass_46 : decode (zmc m_X12_pass) 46 = .ok (.ifCond .eq 30, 3) := by decide +kernel
theorem d_X12_pass_49 : decode (zmc m_X12_pass) 49 = .ok (.aload_n 0, 1) := by decide +kernel
theorem d_X12_pass_50 : decode (zmc m_X12_pass) 50 = .ok (.iload_n 3, 1) := by decide +kernel
theorem d_X12_pass_51 : decode (zmc m_X12_pass) 51 = .ok (.invokevirtual 303, 3) := by decide +kernel
theorem d_X12_pass_54 : decode (zmc m_X12_pass) 54 = .ok (.aload_n 0, 1) := by decide +kernel
theorem d_X12_pass_55 : decode (zmc m_X12_pass) 55 = .ok (.getfield 39, 3) := by decide +kernel
theorem d_X12_pass_58 : decode (zmc m_X12_pass) 58 = .ok (.iconst 0, 1) := by decide +kernel
theorem d_X12_pass_59 : decode (zmc m_X12_pass) 59 = .ok (.iaload, 1) := by decide +kernel
theorem d_X12_pass_60 : decode (zmc m_X12_pass) 60 = .ok (.if_icmp .le 6, 3) := by decide +kernel
theorem d_X12_pass_63 : decode (zmc m_X12_pass) 63 = .ok (.goto 13, 3) := by decide +kernel
theorem d_X12_pass_66 : decode (zmc m_X12_pass) 66 = .ok (.aload_n 0, 1) := by decide +kernel
theorem d_X12_pass_67 : decode (zmc m_X12_pass) 67 = .ok (.getfield 24, 3) := by decide +kernel
theorem d_X12_pass_70 : decode (zmc m_X12_pass) 70 = .ok (.iload_n 3, 1) := by decide +kernel
theorem d_X12_pass_71 : decode (zmc m_X12_pass) 71 = .ok (.iconst 0, 1) := by decide +kernel
theorem d_X12_pass_72 : decode (zmc m_X12_pass) 72 = .ok (.iastore, 1) := by decide +kernel
theorem d_X12_pass_73 : decode (zmc m_X12_pass) 73 = .ok (.iinc 2 1, 3) := by decide +kernel
theorem d_X12_pass_76 : decode (zmc m_X12_pass) 76 = .ok (.iinc 3 1, 3) := by decide +kernel
theorem d_X12_pass_79 : decode (zmc m_X12_pass) 79 = .ok (.goto (-47), 3) := by decide +kernel
theorem d_X12_pass_82 : decode (zmc m_X12_pass) 82 = .ok (.aload_n 0, 1) := by decide +kernel
theorem d_X12_pass_83 : decode (zmc m_X12_pass) 83 = .ok (.getfield 95, 3) := by decide +kernel
theorem d_X12_pass_86 : decode (zmc m_X12_pass) 86 = .ok (.iconst 2, 1) := by decide +kernel
theorem d_X12_pass_87 : decode (zmc m_X12_pass) 87 = .ok (.dup2, 1) := by decide +kernel
theorem d_X12_pass_88 : decode (zmc m_X12_pass) 88 = .ok (.iaload, 1) := by decide +kernel
theorem d_X12_pass_89 : decode (zmc m_X12_pass) 89 = .ok (.iload_n 2, 1) := by decide +kernel
theorem d_X12_pass_90 : decode (zmc m_X12_pass) 90 = .ok (.iadd, 1) := by decide +kernel
theorem d_X12_pass_91 : decode (zmc m_X12_pass) 91 = .ok (.iastore, 1) := by decide +kernel
theorem d_X12_pass_92 : decode (zmc m_X12_pass) 92 = .ok (.iload_n 2, 1) := by decide +kernel
theorem d_X12_pass_93 : decode (zmc m_X12_pass) 93 = .ok (.ireturn, 1) := by decide +kernel
/-! THE REFERENCE: minutes pass, an image -/
section S65
variable {g : zG} {l : Launch} {d : Nat} {I V : Nat → Nat → Int32} {L K : Nat → Nat → Int64} {fs : Nat × Nat × Option Nat} {ns nt nh nb : Nat} {pg : Option (List zLine)}
theorem sp_X12_pass (hd : 2 ≤ d) (hD : zMd I L V K pg) (hK : zSky V ns nt nh) (hB : zBd V ns nt nh) {m : Int32} : zSp g l d 100 m_X12_pass [.ref 64, .int m] (zU I L fs) (zX (fun x w => (¬ (1 ≤ m ∧ m ≤ 999) ∧ x = -1 ∧ w = zU I L fs) ∨ ((1 ≤ m ∧ m ≤ 999) ∧ x = zbc (zDue (zGoOn V m) ns) ∧ ∃ J, w = zU J L fs ∧ zFrm I J ∧ zMd J L (zDueI (zGoOn V m) ns) K pg))) := by
  have hs := hK.2.1
  have hM := hD.1
  obtain ⟨⟨m1, m2, m3⟩, ⟨mc, mb, ms, ma, mu, mg, mf, mp, mn⟩, ⟨mm, md, mz⟩, ml⟩ := id hM
  have hDue := zDue_N (V := zGoOn V m) hs
  have eDrop : ∀ k, zDrop (zGoOn V m) k = zDrop V k := fun _ => rfl
  have e12 : (zGoOn V m) 12 0 = zMin9 (V 12 0 + m) := rfl
  obtain ⟨p, ep⟩ : ∃ p : Nat → Bool, p = fun k => decide (¬ V 7 k = 0 ∧ ¬ zMin9 (V 12 0 + m) < zDrop V k) := ⟨_, rfl⟩
  have hDue2 : zDue (zGoOn V m) ns = nI (zN p ns) := by rw [hDue, ep]; rfl
  have hbc : zbc (zDue (zGoOn V m) ns) = nI (zcnt p ns) := by rw [hDue2, zbc_N hs]
  have hbit : ∀ k, k < ns → ((zDue (zGoOn V m) ns >>> (nI k &&& 31)) &&& 1 = 0 ↔ ¬ p k = true) := by
    intro k hk
    rw [hDue2, zbit_0 (Nat.lt_of_lt_of_le (zN_1024 hs) (by decide)) (by omega), zN_bit, decide_eq_true hk, Bool.true_and, Bool.not_eq_true]
  rw [hbc]
  have fin : ∀ F, F = zDownUp (zDue (zGoOn V m) ns) (V 7) ns 0 → zMd (zup (zup (zup I 74 (zup (I 74) 0 (zMin9 (V 12 0 + m)))) 69 F) 92 (zup (zup (V 15) 4 (V 15 4 + m)) 2 ((zup (V 15) 4 (V 15 4 + m)) 2 + nI (zcnt p ns)))) L (zDueI (zGoOn V m) ns) K pg := by
    rintro F rfl
    refine zMd_s (I := I) (V := V) (fun a h1 h2 h3 => by rw [zup_ne (by omega), zup_ne (by omega), zup_ne (by omega)]) (fun _ _ _ _ => rfl) (fun a ha => by unfold zDueI zGoOn; rw [zup_ne (by omega), zup_ne (by omega), zup_ne (by omega), zup_ne (by omega)]) ?_ hD
    refine ⟨⟨m1, m2, m3⟩, ⟨mc, mb, ms, ma, rfl, mg, mf, mp, mn⟩, ⟨rfl, md, mz⟩, ?_⟩
    unfold zDueI
    rw [zup_eq, zup_eq, hbc]
    rfl
  have loop : ∀ (_ : 1 ≤ m ∧ m ≤ 999), ∀ k, k ≤ ns → ∀ F : Nat → Int32, (∀ j, k ≤ j → F j = V 7 j) → zDownUp (zDue (zGoOn V m) ns) F ns k = zDownUp (zDue (zGoOn V m) ns) (V 7) ns 0 → zA g l d m_X12_pass (zup (zup (zup I 74 (zup (I 74) 0 (zMin9 (V 12 0 + m)))) 69 F) 92 (zup (V 15) 4 (V 15 4 + m))) L fs 32 [(3, .int (nI k)), (2, .int (nI (zcnt p k))), (0, .ref 64)] (zX (fun x w => (¬ (1 ≤ m ∧ m ≤ 999) ∧ x = -1 ∧ w = zU I L fs) ∨ ((1 ≤ m ∧ m ≤ 999) ∧ x = nI (zcnt p ns) ∧ ∃ J, w = zU J L fs ∧ zFrm I J ∧ zMd J L (zDueI (zGoOn V m) ns) K pg))) := by
    intro hc
    refine zloop ns (fun k hk ih F hF hx => ?_)
    obtain ⟨W, hW⟩ : ∃ W : Nat → Nat → Int32, W = zup (zup (zup I 74 (zup (I 74) 0 (zMin9 (V 12 0 + m)))) 69 F) 92 (zup (V 15) 4 (V 15 4 + m)) := ⟨_, rfl⟩
    have w1 : W 64 1 = nI ns := by rw [hW]; exact m1.trans hK.1.1
    have w69 : W 69 = F := by rw [hW]; rfl
    have w74 : W 74 0 = zMin9 (V 12 0 + m) := by rw [hW]; rfl
    have hMW : zMs W (zup (zup (zup V 12 (zup (V 12) 0 (zMin9 (V 12 0 + m)))) 7 F) 15 (zup (V 15) 4 (V 15 4 + m))) := by
      rw [hW]
      exact ⟨⟨m1, m2, m3⟩, ⟨mc, mb, ms, ma, rfl, mg, mf, mp, mn⟩, ⟨rfl, md, mz⟩, rfl⟩
    have ec : ∀ b : Bool, p k = b → zcnt p (k + 1) = zcnt p k + (if b = true then 1 else 0) := fun b e => by show zcnt p k + (if p k = true then 1 else 0) = _; rw [e]
    rw [← hW]
    refine zIloadN d_X12_pass_32 rfl rfl (q := 33) rfl ?_
    refine zAloadN d_X12_pass_33 rfl rfl (q := 34) rfl ?_
    refine zGetI d_X12_pass_34 ff_X12_124 sh_64 (by decide) (q := 37) rfl ?_
    rw [w1]
    refine zIcmp_ge d_X12_pass_37 (tgt := 82) (q := 40) (by decide) rfl (fun h37 => ?_) (fun h37 => ?_)
    · have e : k = ns := by have := nle h37; omega
      have hF2 : F = zDownUp (zDue (zGoOn V m) ns) (V 7) ns 0 := by rw [← hx]; unfold zDownUp; rw [zfor_end (by omega)]
      rw [hW, e]
      refine zAloadN d_X12_pass_82 rfl rfl (q := 83) rfl ?_
      refine zGetR d_X12_pass_83 ff_X12_95 sh_64 (by decide) r_64_41 (q := 86) rfl ?_
      refine zIconst d_X12_pass_86 (v := 2) ic_2 (q := 87) rfl ?_
      refine zDup2 d_X12_pass_87 rfl rfl (q := 88) rfl ?_
      refine zIald d_X12_pass_88 sh_92 (by decide) (j := 2) rfl (by decide) (q := 89) rfl ?_
      refine zIloadN d_X12_pass_89 rfl rfl (q := 90) rfl ?_
      refine zIadd d_X12_pass_90 (q := 91) rfl ?_
      refine zIast d_X12_pass_91 sh_92 (by decide) (j := 2) rfl (by decide) (q := 92) rfl ?_
      refine zIloadN d_X12_pass_92 rfl rfl (q := 93) rfl ?_
      refine zIret d_X12_pass_93 rfl rfl rfl ?_
      rw [zup_zup, zup_eq]
      exact ⟨_, rfl, Or.inr ⟨hc, rfl, _, rfl, zFrm_up (zFrm_up (zFrm_up zFrm_refl (by decide)) (by decide)) (by decide), fin F hF2⟩⟩
    · have hlt := nnle h37
      unfold zDownUp at hx
      rw [zfor_step hlt] at hx
      have hb := hbit k hlt
      have hFk := hF k (Nat.le_refl _)
      refine zAloadN d_X12_pass_40 rfl rfl (q := 41) rfl ?_
      refine zGetR d_X12_pass_41 ff_X12_24 sh_64 (by decide) r_64_6 (q := 44) rfl ?_
      refine zIloadN d_X12_pass_44 rfl rfl (q := 45) rfl ?_
      refine zIald d_X12_pass_45 sh_69 (by decide) rfl (by omega) (q := 46) rfl ?_
      rw [w69, hFk]
      refine zIf_eq d_X12_pass_46 (tgt := 76) (q := 49) (by decide) rfl (fun h46 => ?_) (fun h46 => ?_)
      · have pk : p k = false := by rw [ep]; simp [h46]
        have e1 := ec false pk
        refine zIinc d_X12_pass_76 rfl (zinc _) (by decide) rfl (q := 79) rfl ?_
        refine zGoto d_X12_pass_79 (q := 32) (by decide) ?_
        refine zSub [0, 1, 2] rfl ?_
        have ih2 := ih hlt
        rw [e1] at ih2
        first
        | exact ih2 (zup F k 0) (fun j hj => by rw [zup_ne (by omega)]; exact hF j (by omega)) (by unfold zDownUp; rw [← hx]; congr 1; exact (if_neg (fun z => hb.mp z pk)).symm)
        | (rw [hW]; exact ih2 F (fun j hj => hF j (by omega)) (by unfold zDownUp; rw [← hx]; congr 1; exact (if_pos (hb.mpr (by rw [pk]; decide))).symm))
      · refine zAloadN d_X12_pass_49 rfl rfl (q := 50) rfl ?_
        refine zIloadN d_X12_pass_50 rfl rfl (q := 51) rfl ?_
        refine zCallVP d_X12_pass_51 ml_X12_303 k_X12_dropsAt ki_X12_dropsAt ks_X12_dropsAt (sp_X12_dropsAt (d := d - 1) (by omega) hMW (k := k) (by omega)) rfl rfl sh_64 (by decide) rfl (by decide) (Nat.le_of_ble_eq_true rfl) (by decide) (by omega) zns100 (q := 54) rfl ?_
        refine zAloadN d_X12_pass_54 rfl rfl (q := 55) rfl ?_
        refine zGetR d_X12_pass_55 ff_X12_39 sh_64 (by decide) r_64_13 (q := 58) rfl ?_
        refine zIconst d_X12_pass_58 (v := 0) ic_0 (q := 59) rfl ?_
        refine zIald d_X12_pass_59 sh_74 (by decide) (j := 0) rfl (by decide) (q := 60) rfl ?_
        rw [w74, show zDrop (zup (zup (zup V 12 (zup (V 12) 0 (zMin9 (V 12 0 + m)))) 7 F) 15 (zup (V 15) 4 (V 15 4 + m))) k = zDrop V k from rfl]
        refine zIcmp_le d_X12_pass_60 (tgt := 66) (q := 63) (by decide) rfl (fun h60 => ?_) (fun h60 => ?_)
        · have pk : p k = true := by rw [ep]; exact decide_eq_true ⟨h46, by grind⟩
          have e1 := ec true pk
          refine zAloadN d_X12_pass_66 rfl rfl (q := 67) rfl ?_
          refine zGetR d_X12_pass_67 ff_X12_24 sh_64 (by decide) r_64_6 (q := 70) rfl ?_
          refine zIloadN d_X12_pass_70 rfl rfl (q := 71) rfl ?_
          refine zIconst d_X12_pass_71 (v := 0) ic_0 (q := 72) rfl ?_
          refine zIast d_X12_pass_72 sh_69 (by decide) rfl (by omega) (q := 73) rfl ?_
          rw [w69, hW, zup_3 (show (69 : Nat) ≠ 92 by decide)]
          refine zIinc d_X12_pass_73 rfl (zinc _) (by decide) rfl (q := 76) rfl ?_
          refine zIinc d_X12_pass_76 rfl (zinc _) (by decide) rfl (q := 79) rfl ?_
          refine zGoto d_X12_pass_79 (q := 32) (by decide) ?_
          refine zSub [0, 1, 2] rfl ?_
          have ih2 := ih hlt
          rw [e1] at ih2
          first
          | exact ih2 (zup F k 0) (fun j hj => by rw [zup_ne (by omega)]; exact hF j (by omega)) (by unfold zDownUp; rw [← hx]; congr 1; exact (if_neg (fun z => hb.mp z pk)).symm)
          | (rw [hW]; exact ih2 F (fun j hj => hF j (by omega)) (by unfold zDownUp; rw [← hx]; congr 1; exact (if_pos (hb.mpr (by rw [pk]; decide))).symm))
        · have pk : p k = false := by rw [ep]; exact decide_eq_false (fun z => z.2 (by grind))
          have e1 := ec false pk
          refine zGoto d_X12_pass_63 (q := 76) (by decide) ?_
          refine zIinc d_X12_pass_76 rfl (zinc _) (by decide) rfl (q := 79) rfl ?_
          refine zGoto d_X12_pass_79 (q := 32) (by decide) ?_
          refine zSub [0, 1, 2] rfl ?_
          have ih2 := ih hlt
          rw [e1] at ih2
          first
          | exact ih2 (zup F k 0) (fun j hj => by rw [zup_ne (by omega)]; exact hF j (by omega)) (by unfold zDownUp; rw [← hx]; congr 1; exact (if_neg (fun z => hb.mp z pk)).symm)
          | (rw [hW]; exact ih2 F (fun j hj => hF j (by omega)) (by unfold zDownUp; rw [← hx]; congr 1; exact (if_pos (hb.mpr (by rw [pk]; decide))).symm))
  have e0 : zup I 69 (V 7) = I := by rw [← mu]; exact zup_self
  refine zSp_of (lv := [(0, .ref 64), (1, .int m)]) k_X12_pass rfl (Nat.le_of_ble_eq_true rfl) ?_
  refine zIloadN d_X12_pass_0 rfl rfl (q := 1) rfl ?_
  refine zIconst d_X12_pass_1 (v := 1) ic_1 (q := 2) rfl ?_
  refine zSipush d_X12_pass_2 (v := 999) sc_999 (q := 5) rfl ?_
  refine zCallSP d_X12_pass_5 ml_X12_127 k_X12_in kt_X12_in (sp_X12_in (d := d - 1) (by omega) ) rfl rfl (Nat.le_of_ble_eq_true rfl) (by decide) (by omega) zns100 (q := 8) rfl ?_
  refine zIf_ne d_X12_pass_8 (tgt := 13) (q := 11) (by decide) rfl (fun h8 => ?_) (fun h8 => ?_)
  · refine zAloadN d_X12_pass_13 rfl rfl (q := 14) rfl ?_
    refine zIloadN d_X12_pass_14 rfl rfl (q := 15) rfl ?_
    refine zCallVV d_X12_pass_15 ml_X12_355 k_X12_passes ki_X12_passes ks_X12_passes (sp_X12_passes (d := d - 1) (by omega)) rfl rfl sh_64 (by decide) rfl (by decide) (Nat.le_of_ble_eq_true rfl) (by decide) (by omega) zns100 (q := 18) rfl (fun w' hw' => ?_)
    subst hw'
    rw [mm]
    refine zAloadN d_X12_pass_18 rfl rfl (q := 19) rfl ?_
    refine zGetR d_X12_pass_19 ff_X12_95 sh_64 (by decide) r_64_41 (q := 22) rfl ?_
    refine zIconst d_X12_pass_22 (v := 4) ic_4 (q := 23) rfl ?_
    refine zDup2 d_X12_pass_23 rfl rfl (q := 24) rfl ?_
    refine zIald d_X12_pass_24 sh_92 (by decide) (j := 4) rfl (by decide) (q := 25) rfl ?_
    rw [show (zup I 74 (zup (I 74) 0 (zMin9 (V 12 0 + m)))) 92 = V 15 from ml]
    refine zIloadN d_X12_pass_25 rfl rfl (q := 26) rfl ?_
    refine zIadd d_X12_pass_26 (q := 27) rfl ?_
    refine zIast d_X12_pass_27 sh_92 (by decide) (j := 4) rfl (by decide) (q := 28) rfl ?_
    refine zIconst d_X12_pass_28 (v := 0) ic_0 (q := 29) rfl ?_
    refine zIstoreN d_X12_pass_29 rfl (by decide) rfl (q := 30) rfl ?_
    refine zIconst d_X12_pass_30 (v := 0) ic_0 (q := 31) rfl ?_
    refine zIstoreN d_X12_pass_31 rfl (by decide) rfl (q := 32) rfl ?_
    refine zSub [0, 1, 2] rfl ?_
    have h0 := loop (bi_n0.mp h8) 0 (Nat.zero_le _) (V 7) (fun _ _ => rfl) rfl
    rw [zup_comm (f := I) (show (74 : Nat) ≠ 69 by decide), e0] at h0
    rw [show (zup I 74 (zup (I 74) 0 (zMin9 (V 12 0 + m)))) 92 = V 15 from ml]
    exact h0
  · refine zIconst d_X12_pass_11 (v := -1) ic_m1 (q := 12) rfl ?_
    refine zIret d_X12_pass_12 rfl rfl rfl ?_
    exact ⟨_, rfl, Or.inl ⟨bi_0.mp h8, rfl, rfl⟩⟩
theorem sp_X12_image (hd : 2 ≤ d) (hD : zMd I L V K pg) (hK : zSky V ns nt nh) (hB : zBd V ns nt nh) : zSp g l d 100 m_X12_image [.ref 64] (zU I L fs) (zX (fun x w => x = zTakeI V ns 15 0 ∧ ∃ J, w = zU J L fs ∧ zFrm I J ∧ zMd J L (zTakeI V ns) K pg)) := by
  have hs := hK.2.1
  have hM := hD.1
  obtain ⟨⟨m1, m2, m3⟩, ⟨mc, mb, ms, ma, mu, mg, mf, mp, mn⟩, ⟨mm, md, mz⟩, ml⟩ := id hM
  have eG : ((1 : Int32) <<< (nI ns &&& 31) - 1) &&& (zAtHand V ns ^^^ (-1)) = zbits (V 8) ns := by
    rw [zfull (by omega), zAtHand_N hs, zandnot (zN_lt _ ns) (by omega), zbits_N (by omega)]
    congr 1
    exact zN_congr (fun k hk => by rw [zN_bit, zN_bit, decide_eq_true hk]; simp)
  obtain ⟨A, eA⟩ : ∃ A : Nat → Int32, A = zup (zup (zup (zup (zup (zup (I 64) 42 1) 43 (nI ns)) 44 (zbits (V 7) ns)) 45 (zbits (V 8) ns)) 46 (V 12 0)) 47 (V 14 0) := ⟨_, rfl⟩
  have fin : ∀ F : Nat → Int32, (∀ j, F j = if j < 5 then V 15 j else V 37 j) → zMd (zup (zup I 64 A) 93 F) L (zTakeI V ns) K pg := by
    intro F hF
    refine zMd_i (I := I) (V := V) (fun a h1 h2 => by rw [zup_ne h2, zup_ne h1]) (fun k hk => ?_) (fun a h1 h2 => by unfold zTakeI; rw [zup_ne h1, zup_ne h2]) ?_ hD
    · show A k = _
      rw [eA, zup_ne (by omega), zup_ne (by omega), zup_ne (by omega), zup_ne (by omega), zup_ne (by omega), zup_ne (by omega)]
    · refine ⟨?_, ?_⟩
      · show A 42 = _ ∧ A 43 = _ ∧ A 44 = _ ∧ A 45 = _ ∧ A 46 = _ ∧ A 47 = _
        rw [eA]
        exact ⟨rfl, rfl, rfl, rfl, rfl, rfl⟩
      · show F = va_cpy (V 15) (V 37) 0 0 5
        funext j
        rw [hF]
        by_cases e : j < 5
        · rw [if_pos e, pk_cpy_in (Nat.zero_le _) (by omega), Nat.zero_add, Nat.sub_zero]
        · rw [if_neg e, pk_cpy_out (by omega)]
  have loop : ∀ k, k ≤ 5 → ∀ F : Nat → Int32, (∀ j, F j = if j < k then V 15 j else V 37 j) → zA g l d m_X12_image (zup (zup I 64 A) 93 F) L fs 62 [(1, .int (nI k)), (0, .ref 64)] (zX (fun x w => x = zTakeI V ns 15 0 ∧ ∃ J, w = zU J L fs ∧ zFrm I J ∧ zMd J L (zTakeI V ns) K pg)) := by
    refine zloop 5 (fun k hk ih F hF => ?_)
    have w92 : ∀ F, (zup (zup I 64 A) 93 F) 92 = V 15 := fun _ => ml
    refine zIloadN d_X12_image_62 rfl rfl (q := 63) rfl ?_
    refine zIconst d_X12_image_63 (v := 5) ic_5 (q := 64) rfl ?_
    refine zIcmp_ge d_X12_image_64 (tgt := 85) (q := 67) (by decide) rfl (fun h64 => ?_) (fun h64 => ?_)
    · have e : k = 5 := by have := nle (b := 5) h64; omega
      subst e
      refine zAloadN d_X12_image_85 rfl rfl (q := 86) rfl ?_
      refine zGetR d_X12_image_86 ff_X12_95 sh_64 (by decide) r_64_41 (q := 89) rfl ?_
      refine zIconst d_X12_image_89 (v := 0) ic_0 (q := 90) rfl ?_
      refine zIald d_X12_image_90 sh_92 (by decide) (j := 0) rfl (by decide) (q := 91) rfl ?_
      refine zIret d_X12_image_91 rfl rfl rfl ?_
      exact ⟨_, rfl, congrFun ml 0, _, rfl, zFrm_up (zFrm_up zFrm_refl (by decide)) (by decide), fin F hF⟩
    · have hlt := nnle (b := 5) h64
      refine zAloadN d_X12_image_67 rfl rfl (q := 68) rfl ?_
      refine zGetR d_X12_image_68 ff_X12_98 sh_64 (by decide) r_64_48 (q := 71) rfl ?_
      refine zIloadN d_X12_image_71 rfl rfl (q := 72) rfl ?_
      refine zAloadN d_X12_image_72 rfl rfl (q := 73) rfl ?_
      refine zGetR d_X12_image_73 ff_X12_95 sh_64 (by decide) r_64_41 (q := 76) rfl ?_
      refine zIloadN d_X12_image_76 rfl rfl (q := 77) rfl ?_
      refine zIald d_X12_image_77 sh_92 (by decide) rfl (by omega) (q := 78) rfl ?_
      rw [w92]
      refine zIast d_X12_image_78 sh_93 (by decide) rfl (by omega) (q := 79) rfl ?_
      rw [zup_zup, zup_eq]
      refine zIinc d_X12_image_79 rfl (zinc _) (by decide) rfl (q := 82) rfl ?_
      refine zGoto d_X12_image_82 (q := 62) (by decide) ?_
      refine zSub [0, 1] rfl ?_
      refine ih hlt _ (fun j => ?_)
      by_cases e : j = k
      · subst e; rw [zup_eq, if_pos (by omega)]
      · rw [zup_ne e, hF]
        by_cases c : j < k
        · rw [if_pos c, if_pos (by omega)]
        · rw [if_neg c, if_neg (by omega)]
  have m64 : I 64 1 = nI ns := m1.trans hK.1.1
  have hMG : ∀ G : Nat → Int32, G 1 = I 64 1 → G 8 = I 64 8 → G 11 = I 64 11 → zMs (zup I 64 G) V := fun G g1 g2 g3 => zMs_ex (I := I) ⟨g1, g2, g3⟩ (fun a ha => zup_ne (by omega)) (fun _ _ => rfl) hM
  refine zSp_of (lv := [(0, .ref 64)]) k_X12_image rfl (Nat.le_of_ble_eq_true rfl) ?_
  refine zAloadN d_X12_image_0 rfl rfl (q := 1) rfl ?_
  refine zIconst d_X12_image_1 (v := 1) ic_1 (q := 2) rfl ?_
  refine zPutI d_X12_image_2 ff_X12_358 rfl rfl rfl sh_64 (by decide) (q := 5) rfl ?_
  refine zAloadN d_X12_image_5 rfl rfl (q := 6) rfl ?_
  refine zAloadN d_X12_image_6 rfl rfl (q := 7) rfl ?_
  refine zGetI d_X12_image_7 ff_X12_124 sh_64 (by decide) (q := 10) rfl ?_
  rw [show (zup I 64 (zup (I 64) 42 1)) 64 1 = nI ns from m64]
  refine zPutI d_X12_image_10 ff_X12_361 rfl rfl rfl sh_64 (by decide) (q := 13) rfl ?_
  rw [zup_zup, zup_eq]
  refine zAloadN d_X12_image_13 rfl rfl (q := 14) rfl ?_
  refine zAloadN d_X12_image_14 rfl rfl (q := 15) rfl ?_
  refine zCallVP d_X12_image_15 ml_X12_321 k_X12_upNow ki_X12_upNow ks_X12_upNow (sp_X12_upNow (d := d - 1) (by omega) (hMG _ rfl rfl rfl) hK hB) rfl rfl sh_64 (by decide) rfl (by decide) (Nat.le_of_ble_eq_true rfl) (by decide) (by omega) zns100 (q := 18) rfl ?_
  refine zPutI d_X12_image_18 ff_X12_364 rfl rfl rfl sh_64 (by decide) (q := 21) rfl ?_
  rw [zup_zup, zup_eq]
  refine zAloadN d_X12_image_21 rfl rfl (q := 22) rfl ?_
  refine zIconst d_X12_image_22 (v := 1) ic_1 (q := 23) rfl ?_
  refine zAloadN d_X12_image_23 rfl rfl (q := 24) rfl ?_
  refine zGetI d_X12_image_24 ff_X12_124 sh_64 (by decide) (q := 27) rfl ?_
  rw [show ∀ G, (zup I 64 (zup (zup (zup (I 64) 42 1) 43 (nI ns)) 44 G)) 64 1 = nI ns from fun _ => m64]
  refine zIshl d_X12_image_27 (q := 28) rfl ?_
  refine zIconst d_X12_image_28 (v := 1) ic_1 (q := 29) rfl ?_
  refine zIsub d_X12_image_29 (q := 30) rfl ?_
  refine zAloadN d_X12_image_30 rfl rfl (q := 31) rfl ?_
  refine zCallVP d_X12_image_31 ml_X12_333 k_X12_thereBits ki_X12_thereBits ks_X12_thereBits (sp_X12_thereBits (d := d - 1) (by omega) (hMG _ rfl rfl rfl) hK) rfl rfl sh_64 (by decide) rfl (by decide) (Nat.le_of_ble_eq_true rfl) (by decide) (by omega) zns100 (q := 34) rfl ?_
  refine zIconst d_X12_image_34 (v := -1) ic_m1 (q := 35) rfl ?_
  refine zIxor d_X12_image_35 (q := 36) rfl ?_
  refine zIand d_X12_image_36 (q := 37) rfl ?_
  rw [eG]
  refine zPutI d_X12_image_37 ff_X12_367 rfl rfl rfl sh_64 (by decide) (q := 40) rfl ?_
  rw [zup_zup, zup_eq]
  refine zAloadN d_X12_image_40 rfl rfl (q := 41) rfl ?_
  refine zAloadN d_X12_image_41 rfl rfl (q := 42) rfl ?_
  refine zGetR d_X12_image_42 ff_X12_39 sh_64 (by decide) r_64_13 (q := 45) rfl ?_
  refine zIconst d_X12_image_45 (v := 0) ic_0 (q := 46) rfl ?_
  refine zIald d_X12_image_46 sh_74 (by decide) (j := 0) rfl (by decide) (q := 47) rfl ?_
  rw [show ∀ G, (zup I 64 G) 74 0 = V 12 0 from fun _ => mm]
  refine zPutI d_X12_image_47 ff_X12_370 rfl rfl rfl sh_64 (by decide) (q := 50) rfl ?_
  rw [zup_zup, zup_eq]
  refine zAloadN d_X12_image_50 rfl rfl (q := 51) rfl ?_
  refine zAloadN d_X12_image_51 rfl rfl (q := 52) rfl ?_
  refine zGetR d_X12_image_52 ff_X12_39 sh_64 (by decide) r_64_13 (q := 55) rfl ?_
  refine zIconst d_X12_image_55 (v := 2) ic_2 (q := 56) rfl ?_
  refine zIald d_X12_image_56 sh_74 (by decide) (j := 2) rfl (by decide) (q := 57) rfl ?_
  rw [show ∀ G, (zup I 64 G) 74 2 = V 14 0 from fun _ => mz]
  refine zPutI d_X12_image_57 ff_X12_373 rfl rfl rfl sh_64 (by decide) (q := 60) rfl ?_
  rw [zup_zup, zup_eq]
  refine zIconst d_X12_image_60 (v := 0) ic_0 (q := 61) rfl ?_
  refine zIstoreN d_X12_image_61 rfl (by decide) rfl (q := 62) rfl ?_
  refine zSub [0, 1] rfl ?_
  have h0 := loop 0 (Nat.zero_le _) (V 37) (fun j => by rw [if_neg (Nat.not_lt_zero _)])
  rw [show zup (zup I 64 A) 93 (V 37) = zup I 64 A by rw [zup_comm (show (64 : Nat) ≠ 93 by decide), ← hD.2.2.2.1.2, zup_self], eA] at h0
  exact h0
theorem sp_X12_back (hd : 2 ≤ d) (hD : zMd I L V K pg) (hK : zSky V ns nt nh) (hB : zBd V ns nt nh) {ks : Nat} (hks : V 36 3 = nI ks) (hle : ks ≤ ns) : zSp g l d 100 m_X12_back [.ref 64] (zU I L fs) (zX (fun x w => (V 36 6 = 0 ∧ x = -5 ∧ w = zU I L fs) ∨ (¬ V 36 6 = 0 ∧ x = zBackI V ks 15 0 ∧ ∃ J, w = zU J L fs ∧ zFrm I J ∧ zMd J L (zBackI V ks) K pg))) := by
  have hs := hK.2.1
  have hM := hD.1
  obtain ⟨⟨m1, m2, m3⟩, ⟨mc, mb, ms, ma, mu, mg, mf, mp, mn⟩, ⟨mm, md, mz⟩, ml⟩ := id hM
  obtain ⟨⟨i42, i43, i44, i45, i46, i47⟩, i93⟩ := id hD.2.2.2.1
  obtain ⟨F0, eF0⟩ : ∃ F0, F0 = zBitF (V 36 1) (V 7) ks 0 := ⟨_, rfl⟩
  obtain ⟨G0, eG0⟩ : ∃ G0, G0 = zBitF (V 36 2) (V 8) ks 0 := ⟨_, rfl⟩
  obtain ⟨N, eN⟩ : ∃ N : Nat → Int32, N = zup (zup (I 74) 0 (V 36 4)) 2 (V 36 5) := ⟨_, rfl⟩
  have fin : ∀ F : Nat → Int32, (∀ j, F j = if j < 5 then V 37 j else V 15 j) → F 0 = zBackI V ks 15 0 ∧ zMd (zup (zup (zup (zup I 69 F0) 70 G0) 74 N) 92 F) L (zBackI V ks) K pg := by
    intro F hF
    have eF : F = va_cpy (V 37) (V 15) 0 0 5 := by
      funext j
      rw [hF]
      by_cases e : j < 5
      · rw [if_pos e, pk_cpy_in (Nat.zero_le _) (by omega), Nat.zero_add, Nat.sub_zero]
      · rw [if_neg e, pk_cpy_out (by omega)]
    refine ⟨by rw [eF]; rfl, ?_⟩
    refine zMd_s (I := I) (V := V) (fun a h1 h2 h3 => by rw [zup_ne h3, zup_ne (by omega), zup_ne (by omega), zup_ne (by omega)]) (fun _ _ _ _ => rfl) (fun a ha => by unfold zBackI; rw [zup_ne (by omega), zup_ne (by omega), zup_ne (by omega), zup_ne (by omega), zup_ne (by omega)]) ?_ hD
    refine ⟨⟨m1, m2, m3⟩, ⟨mc, mb, ms, ma, eF0, eG0, mf, mp, mn⟩, ⟨?_, ?_, ?_⟩, eF⟩
    · show N 0 = _; rw [eN]; rfl
    · show N 1 = _; rw [eN]; exact md
    · show N 2 = _; rw [eN]; rfl
  have loop2 : ¬ V 36 6 = 0 → ∀ k, k ≤ 5 → ∀ F : Nat → Int32, (∀ j, F j = if j < k then V 37 j else V 15 j) → zA g l d m_X12_back (zup (zup (zup (zup I 69 F0) 70 G0) 74 N) 92 F) L fs 76 [(1, .int (nI k)), (0, .ref 64)] (zX (fun x w => (V 36 6 = 0 ∧ x = -5 ∧ w = zU I L fs) ∨ (¬ V 36 6 = 0 ∧ x = zBackI V ks 15 0 ∧ ∃ J, w = zU J L fs ∧ zFrm I J ∧ zMd J L (zBackI V ks) K pg))) := by
    intro hv
    refine zloop 5 (fun k hk ih F hF => ?_)
    have w93 : ∀ F, (zup (zup (zup (zup I 69 F0) 70 G0) 74 N) 92 F) 93 = V 37 := fun _ => i93
    refine zIloadN d_X12_back_76 rfl rfl (q := 77) rfl ?_
    refine zIconst d_X12_back_77 (v := 5) ic_5 (q := 78) rfl ?_
    refine zIcmp_ge d_X12_back_78 (tgt := 99) (q := 81) (by decide) rfl (fun h78 => ?_) (fun h78 => ?_)
    · have e : k = 5 := by have := nle (b := 5) h78; omega
      subst e
      refine zAloadN d_X12_back_99 rfl rfl (q := 100) rfl ?_
      refine zGetR d_X12_back_100 ff_X12_95 sh_64 (by decide) r_64_41 (q := 103) rfl ?_
      refine zIconst d_X12_back_103 (v := 0) ic_0 (q := 104) rfl ?_
      refine zIald d_X12_back_104 sh_92 (by decide) (j := 0) rfl (by decide) (q := 105) rfl ?_
      refine zIret d_X12_back_105 rfl rfl rfl ?_
      exact ⟨_, rfl, Or.inr ⟨hv, (fin F hF).1, _, rfl, zFrm_up (zFrm_up (zFrm_up (zFrm_up zFrm_refl (by decide)) (by decide)) (by decide)) (by decide), (fin F hF).2⟩⟩
    · have hlt := nnle (b := 5) h78
      refine zAloadN d_X12_back_81 rfl rfl (q := 82) rfl ?_
      refine zGetR d_X12_back_82 ff_X12_95 sh_64 (by decide) r_64_41 (q := 85) rfl ?_
      refine zIloadN d_X12_back_85 rfl rfl (q := 86) rfl ?_
      refine zAloadN d_X12_back_86 rfl rfl (q := 87) rfl ?_
      refine zGetR d_X12_back_87 ff_X12_98 sh_64 (by decide) r_64_48 (q := 90) rfl ?_
      refine zIloadN d_X12_back_90 rfl rfl (q := 91) rfl ?_
      refine zIald d_X12_back_91 sh_93 (by decide) rfl (by omega) (q := 92) rfl ?_
      rw [w93]
      refine zIast d_X12_back_92 sh_92 (by decide) rfl (by omega) (q := 93) rfl ?_
      rw [zup_zup, zup_eq]
      refine zIinc d_X12_back_93 rfl (zinc _) (by decide) rfl (q := 96) rfl ?_
      refine zGoto d_X12_back_96 (q := 76) (by decide) ?_
      refine zSub [0, 1] rfl ?_
      refine ih hlt _ (fun j => ?_)
      by_cases e : j = k
      · subst e; rw [zup_eq, if_pos (by omega)]
      · rw [zup_ne e, hF]
        by_cases c : j < k
        · rw [if_pos c, if_pos (by omega)]
        · rw [if_neg c, if_neg (by omega)]
  have loop : ¬ V 36 6 = 0 → ∀ k, k ≤ ks → ∀ F G, zBitF (V 36 1) F ks k = F0 → zBitF (V 36 2) G ks k = G0 → zA g l d m_X12_back (zup (zup I 69 F) 70 G) L fs 12 [(1, .int (nI k)), (0, .ref 64)] (zX (fun x w => (V 36 6 = 0 ∧ x = -5 ∧ w = zU I L fs) ∨ (¬ V 36 6 = 0 ∧ x = zBackI V ks 15 0 ∧ ∃ J, w = zU J L fs ∧ zFrm I J ∧ zMd J L (zBackI V ks) K pg))) := by
    intro hv
    refine zloop ks (fun k hk ih F G hx hy => ?_)
    have w43 : ∀ F G, (zup (zup I 69 F) 70 G) 64 43 = nI ks := fun _ _ => i43.trans hks
    have w44 : ∀ F G, (zup (zup I 69 F) 70 G) 64 44 = V 36 1 := fun _ _ => i44
    have w45 : ∀ F G, (zup (zup I 69 F) 70 G) 64 45 = V 36 2 := fun _ _ => i45
    refine zIloadN d_X12_back_12 rfl rfl (q := 13) rfl ?_
    refine zAloadN d_X12_back_13 rfl rfl (q := 14) rfl ?_
    refine zGetI d_X12_back_14 ff_X12_361 sh_64 (by decide) (q := 17) rfl ?_
    rw [w43]
    refine zIcmp_ge d_X12_back_17 (tgt := 54) (q := 20) (by decide) rfl (fun h17 => ?_) (fun h17 => ?_)
    · have e : k = ks := by have := nle h17; omega
      subst e
      unfold zBitF at hx hy
      rw [zfor_end (Nat.le_refl _)] at hx hy
      rw [hx, hy]
      refine zAloadN d_X12_back_54 rfl rfl (q := 55) rfl ?_
      refine zGetR d_X12_back_55 ff_X12_39 sh_64 (by decide) r_64_13 (q := 58) rfl ?_
      refine zIconst d_X12_back_58 (v := 0) ic_0 (q := 59) rfl ?_
      refine zAloadN d_X12_back_59 rfl rfl (q := 60) rfl ?_
      refine zGetI d_X12_back_60 ff_X12_370 sh_64 (by decide) (q := 63) rfl ?_
      rw [show (zup (zup I 69 F0) 70 G0) 64 46 = V 36 4 from i46]
      refine zIast d_X12_back_63 sh_74 (by decide) (j := 0) rfl (by decide) (q := 64) rfl ?_
      rw [show (zup (zup I 69 F0) 70 G0) 74 = I 74 from rfl]
      refine zAloadN d_X12_back_64 rfl rfl (q := 65) rfl ?_
      refine zGetR d_X12_back_65 ff_X12_39 sh_64 (by decide) r_64_13 (q := 68) rfl ?_
      refine zIconst d_X12_back_68 (v := 2) ic_2 (q := 69) rfl ?_
      refine zAloadN d_X12_back_69 rfl rfl (q := 70) rfl ?_
      refine zGetI d_X12_back_70 ff_X12_373 sh_64 (by decide) (q := 73) rfl ?_
      rw [show ∀ X, (zup (zup (zup I 69 F0) 70 G0) 74 X) 64 47 = V 36 5 from fun _ => i47]
      refine zIast d_X12_back_73 sh_74 (by decide) (j := 2) rfl (by decide) (q := 74) rfl ?_
      rw [zup_zup, zup_eq, ← eN]
      refine zIconst d_X12_back_74 (v := 0) ic_0 (q := 75) rfl ?_
      refine zIstoreN d_X12_back_75 rfl (by decide) rfl (q := 76) rfl ?_
      refine zSub [0, 1] rfl ?_
      have h0 := loop2 hv 0 (Nat.zero_le _) (V 15) (fun j => by rw [if_neg (Nat.not_lt_zero _)])
      rw [show zup (zup (zup (zup I 69 F0) 70 G0) 74 N) 92 (V 15) = zup (zup (zup I 69 F0) 70 G0) 74 N by rw [← ml]; exact zup_self (f := zup (zup (zup I 69 F0) 70 G0) 74 N) (a := 92)] at h0
      exact h0
    · have hlt := nnle h17
      unfold zBitF at hx hy
      rw [zfor_step hlt] at hx hy
      refine zAloadN d_X12_back_20 rfl rfl (q := 21) rfl ?_
      refine zGetR d_X12_back_21 ff_X12_24 sh_64 (by decide) r_64_6 (q := 24) rfl ?_
      refine zIloadN d_X12_back_24 rfl rfl (q := 25) rfl ?_
      refine zAloadN d_X12_back_25 rfl rfl (q := 26) rfl ?_
      refine zGetI d_X12_back_26 ff_X12_364 sh_64 (by decide) (q := 29) rfl ?_
      rw [w44]
      refine zIloadN d_X12_back_29 rfl rfl (q := 30) rfl ?_
      refine zIshr d_X12_back_30 (q := 31) rfl ?_
      refine zIconst d_X12_back_31 (v := 1) ic_1 (q := 32) rfl ?_
      refine zIand d_X12_back_32 (q := 33) rfl ?_
      refine zIast d_X12_back_33 sh_69 (by decide) rfl (by omega) (q := 34) rfl ?_
      rw [zup_3 (show (69 : Nat) ≠ 70 by decide), show (zup (zup I 69 F) 70 G) 69 = F from rfl]
      refine zAloadN d_X12_back_34 rfl rfl (q := 35) rfl ?_
      refine zGetR d_X12_back_35 ff_X12_27 sh_64 (by decide) r_64_7 (q := 38) rfl ?_
      refine zIloadN d_X12_back_38 rfl rfl (q := 39) rfl ?_
      refine zAloadN d_X12_back_39 rfl rfl (q := 40) rfl ?_
      refine zGetI d_X12_back_40 ff_X12_367 sh_64 (by decide) (q := 43) rfl ?_
      rw [w45]
      refine zIloadN d_X12_back_43 rfl rfl (q := 44) rfl ?_
      refine zIshr d_X12_back_44 (q := 45) rfl ?_
      refine zIconst d_X12_back_45 (v := 1) ic_1 (q := 46) rfl ?_
      refine zIand d_X12_back_46 (q := 47) rfl ?_
      refine zIast d_X12_back_47 sh_70 (by decide) rfl (by omega) (q := 48) rfl ?_
      rw [zup_zup, zup_eq]
      refine zIinc d_X12_back_48 rfl (zinc _) (by decide) rfl (q := 51) rfl ?_
      refine zGoto d_X12_back_51 (q := 12) (by decide) ?_
      refine zSub [0, 1] rfl ?_
      exact ih hlt _ _ hx hy
  have h0 := fun hv => loop hv 0 (Nat.zero_le _) (V 7) (V 8) eF0.symm eG0.symm
  have e00 : zup (zup I 69 (V 7)) 70 (V 8) = I := by rw [← mu, ← mg, zup_self, zup_self]
  rw [e00] at h0
  refine zSp_of (lv := [(0, .ref 64)]) k_X12_back rfl (Nat.le_of_ble_eq_true rfl) ?_
  refine zAloadN d_X12_back_0 rfl rfl (q := 1) rfl ?_
  refine zGetI d_X12_back_1 ff_X12_358 sh_64 (by decide) (q := 4) rfl ?_
  refine zIf_ne d_X12_back_4 (tgt := 10) (q := 7) (by decide) rfl (fun h4 => ?_) (fun h4 => ?_)
  · have c : ¬ V 36 6 = 0 := fun z => h4 (i42.trans z)
    refine zIconst d_X12_back_10 (v := 0) ic_0 (q := 11) rfl ?_
    refine zIstoreN d_X12_back_11 rfl (by decide) rfl (q := 12) rfl ?_
    refine zSub [0, 1] rfl ?_
    exact h0 c
  · have c : V 36 6 = 0 := i42.symm.trans h4
    refine zBipush d_X12_back_7 (v := -5) bc_m5 (q := 9) rfl ?_
    refine zIret d_X12_back_9 rfl rfl rfl ?_
    exact ⟨_, rfl, Or.inl ⟨c, rfl, rfl⟩⟩
end S65

