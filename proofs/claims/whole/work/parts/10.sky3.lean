theorem d_X9_addShip_0 : decode (zmc m_X9_addShip) 0 = .ok (.aload_n 0, 1) := by decide +kernel
theorem d_X9_addShip_1 : decode (zmc m_X9_addShip) 1 = .ok (.bipush 8, 2) := by decide +kernel
theorem d_X9_addShip_3 : decode (zmc m_X9_addShip) 3 = .ok (.iload_n 1, 1) := by decide +kernel
theorem d_X9_addShip_4 : decode (zmc m_X9_addShip) 4 = .ok (.invokevirtual 50, 3) := by decide +kernel
theorem d_X9_addShip_7 : decode (zmc m_X9_addShip) 7 = .ok (.ifCond .ne 5, 3) := by decide +kernel
theorem d_X9_addShip_10 : decode (zmc m_X9_addShip) 10 = .ok (.iconst (-1), 1) := by decide +kernel
theorem d_X9_addShip_11 : decode (zmc m_X9_addShip) 11 = .ok (.ireturn, 1) := by decide +kernel
theorem d_X9_addShip_12 : decode (zmc m_X9_addShip) 12 = .ok (.aload_n 0, 1) := by decide +kernel
theorem d_X9_addShip_13 : decode (zmc m_X9_addShip) 13 = .ok (.getfield 30, 3) := by decide +kernel
theorem d_X9_addShip_16 : decode (zmc m_X9_addShip) 16 = .ok (.bipush 6, 2) := by decide +kernel
theorem d_X9_addShip_18 : decode (zmc m_X9_addShip) 18 = .ok (.if_icmp .lt 6, 3) := by decide +kernel
theorem d_X9_addShip_21 : decode (zmc m_X9_addShip) 21 = .ok (.bipush (-3), 2) := by decide +kernel
theorem d_X9_addShip_23 : decode (zmc m_X9_addShip) 23 = .ok (.ireturn, 1) := by decide +kernel
theorem d_X9_addShip_24 : decode (zmc m_X9_addShip) 24 = .ok (.aload_n 0, 1) := by decide +kernel
theorem d_X9_addShip_25 : decode (zmc m_X9_addShip) 25 = .ok (.dup, 1) := by decide +kernel
theorem d_X9_addShip_26 : decode (zmc m_X9_addShip) 26 = .ok (.getfield 30, 3) := by decide +kernel
theorem d_X9_addShip_29 : decode (zmc m_X9_addShip) 29 = .ok (.dup_x1, 1) := by decide +kernel
theorem d_X9_addShip_30 : decode (zmc m_X9_addShip) 30 = .ok (.iconst 1, 1) := by decide +kernel
theorem d_X9_addShip_31 : decode (zmc m_X9_addShip) 31 = .ok (.iadd, 1) := by decide +kernel
theorem d_X9_addShip_32 : decode (zmc m_X9_addShip) 32 = .ok (.putfield 30, 3) := by decide +kernel
theorem d_X9_addShip_35 : decode (zmc m_X9_addShip) 35 = .ok (.istore_n 2, 1) := by decide +kernel
theorem d_X9_addShip_36 : decode (zmc m_X9_addShip) 36 = .ok (.aload_n 0, 1) := by decide +kernel
theorem d_X9_addShip_37 : decode (zmc m_X9_addShip) 37 = .ok (.bipush 8, 2) := by decide +kernel
theorem d_X9_addShip_39 : decode (zmc m_X9_addShip) 39 = .ok (.iload_n 2, 1) := by decide +kernel
theorem d_X9_addShip_40 : decode (zmc m_X9_addShip) 40 = .ok (.iload_n 1, 1) := by decide +kernel
theorem d_X9_addShip_41 : decode (zmc m_X9_addShip) 41 = .ok (.invokevirtual 53, 3) := by decide +kernel
theorem d_X9_addShip_44 : decode (zmc m_X9_addShip) 44 = .ok (.iload_n 2, 1) := by decide +kernel
theorem d_X9_addShip_45 : decode (zmc m_X9_addShip) 45 = .ok (.ireturn, 1) := by decide +kernel
theorem d_X9_addStar_0 : decode (zmc m_X9_addStar) 0 = .ok (.aload_n 0, 1) := by decide +kernel
theorem d_X9_addStar_1 : decode (zmc m_X9_addStar) 1 = .ok (.iconst 0, 1) := by decide +kernel
theorem d_X9_addStar_2 : decode (zmc m_X9_addStar) 2 = .ok (.iload_n 1, 1) := by decide +kernel
theorem d_X9_addStar_3 : decode (zmc m_X9_addStar) 3 = .ok (.invokevirtual 50, 3) := by decide +kernel
theorem d_X9_addStar_6 : decode (zmc m_X9_addStar) 6 = .ok (.ifCond .eq 21, 3) := by decide +kernel
theorem d_X9_addStar_9 : decode (zmc m_X9_addStar) 9 = .ok (.aload_n 0, 1) := by decide +kernel
theorem d_X9_addStar_10 : decode (zmc m_X9_addStar) 10 = .ok (.iconst 1, 1) := by decide +kernel
theorem d_X9_addStar_11 : decode (zmc m_X9_addStar) 11 = .ok (.iload_n 2, 1) := by decide +kernel
theorem d_X9_addStar_12 : decode (zmc m_X9_addStar) 12 = .ok (.invokevirtual 50, 3) := by decide +kernel
theorem d_X9_addStar_15 : decode (zmc m_X9_addStar) 15 = .ok (.ifCond .eq 12, 3) := by decide +kernel
theorem d_X9_addStar_18 : decode (zmc m_X9_addStar) 18 = .ok (.aload_n 0, 1) := by decide +kernel
theorem d_X9_addStar_19 : decode (zmc m_X9_addStar) 19 = .ok (.iconst 2, 1) := by decide +kernel
theorem d_X9_addStar_20 : decode (zmc m_X9_addStar) 20 = .ok (.iload_n 3, 1) := by decide +kernel
theorem d_X9_addStar_21 : decode (zmc m_X9_addStar) 21 = .ok (.invokevirtual 50, 3) := by decide +kernel
theorem d_X9_addStar_24 : decode (zmc m_X9_addStar) 24 = .ok (.ifCond .ne 5, 3) := by decide +kernel
theorem d_X9_addStar_27 : decode (zmc m_X9_addStar) 27 = .ok (.iconst (-1), 1) := by decide +kernel
theorem d_X9_addStar_28 : decode (zmc m_X9_addStar) 28 = .ok (.ireturn, 1) := by decide +kernel
theorem d_X9_addStar_29 : decode (zmc m_X9_addStar) 29 = .ok (.aload_n 0, 1) := by decide +kernel
theorem d_X9_addStar_30 : decode (zmc m_X9_addStar) 30 = .ok (.iload_n 1, 1) := by decide +kernel
theorem d_X9_addStar_31 : decode (zmc m_X9_addStar) 31 = .ok (.invokevirtual 47, 3) := by decide +kernel
theorem d_X9_addStar_34 : decode (zmc m_X9_addStar) 34 = .ok (.bipush (-2), 2) := by decide +kernel
theorem d_X9_addStar_36 : decode (zmc m_X9_addStar) 36 = .ok (.if_icmp .eq 5, 3) := by decide +kernel
theorem d_X9_addStar_39 : decode (zmc m_X9_addStar) 39 = .ok (.iconst (-1), 1) := by decide +kernel
theorem d_X9_addStar_40 : decode (zmc m_X9_addStar) 40 = .ok (.ireturn, 1) := by decide +kernel
theorem d_X9_addStar_41 : decode (zmc m_X9_addStar) 41 = .ok (.aload_n 0, 1) := by decide +kernel
theorem d_X9_addStar_42 : decode (zmc m_X9_addStar) 42 = .ok (.getfield 23, 3) := by decide +kernel
theorem d_X9_addStar_45 : decode (zmc m_X9_addStar) 45 = .ok (.bipush 10, 2) := by decide +kernel
theorem d_X9_addStar_47 : decode (zmc m_X9_addStar) 47 = .ok (.if_icmp .lt 6, 3) := by decide +kernel
theorem d_X9_addStar_50 : decode (zmc m_X9_addStar) 50 = .ok (.bipush (-3), 2) := by decide +kernel
theorem d_X9_addStar_52 : decode (zmc m_X9_addStar) 52 = .ok (.ireturn, 1) := by decide +kernel
theorem d_X9_addStar_53 : decode (zmc m_X9_addStar) 53 = .ok (.aload_n 0, 1) := by decide +kernel
theorem d_X9_addStar_54 : decode (zmc m_X9_addStar) 54 = .ok (.dup, 1) := by decide +kernel
theorem d_X9_addStar_55 : decode (zmc m_X9_addStar) 55 = .ok (.getfield 23, 3) := by decide +kernel
theorem d_X9_addStar_58 : decode (zmc m_X9_addStar) 58 = .ok (.dup_x1, 1) := by decide +kernel
theorem d_X9_addStar_59 : decode (zmc m_X9_addStar) 59 = .ok (.iconst 1, 1) := by decide +kernel
theorem d_X9_addStar_60 : decode (zmc m_X9_addStar) 60 = .ok (.iadd, 1) := by decide +kernel
theorem d_X9_addStar_61 : decode (zmc m_X9_addStar) 61 = .ok (.putfield 23, 3) := by decide +kernel
theorem d_X9_addStar_64 : decode (zmc m_X9_addStar) 64 = .ok (.istore 4, 2) := by decide +kernel
theorem d_X9_addStar_66 : decode (zmc m_X9_addStar) 66 = .ok (.aload_n 0, 1) := by decide +kernel
theorem d_X9_addStar_67 : decode (zmc m_X9_addStar) 67 = .ok (.iconst 0, 1) := by decide +kernel
theorem d_X9_addStar_68 : decode (zmc m_X9_addStar) 68 = .ok (.iload 4, 2) := by decide +kernel
theorem d_X9_addStar_70 : decode (zmc m_X9_addStar) 70 = .ok (.iload_n 1, 1) := by decide +kernel
theorem d_X9_addStar_71 : decode (zmc m_X9_addStar) 71 = .ok (.invokevirtual 53, 3) := by decide +kernel
theorem d_X9_addStar_74 : decode (zmc m_X9_addStar) 74 = .ok (.aload_n 0, 1) := by decide +kernel
theorem d_X9_addStar_75 : decode (zmc m_X9_addStar) 75 = .ok (.iconst 1, 1) := by decide +kernel
theorem d_X9_addStar_76 : decode (zmc m_X9_addStar) 76 = .ok (.iload 4, 2) := by decide +kernel
theorem d_X9_addStar_78 : decode (zmc m_X9_addStar) 78 = .ok (.iload_n 2, 1) := by decide +kernel
theorem d_X9_addStar_79 : decode (zmc m_X9_addStar) 79 = .ok (.invokevirtual 53, 3) := by decide +kernel
theorem d_X9_addStar_82 : decode (zmc m_X9_addStar) 82 = .ok (.aload_n 0, 1) := by decide +kernel
theorem d_X9_addStar_83 : decode (zmc m_X9_addStar) 83 = .ok (.iconst 2, 1) := by decide +kernel
theorem d_X9_addStar_84 : decode (zmc m_X9_addStar) 84 = .ok (.iload 4, 2) := by decide +kernel
theorem d_X9_addStar_86 : decode (zmc m_X9_addStar) 86 = .ok (.iload_n 3, 1) := by decide +kernel
theorem d_X9_addStar_87 : decode (zmc m_X9_addStar) 87 = .ok (.invokevirtual 53, 3) := by decide +kernel
theorem d_X9_addStar_90 : decode (zmc m_X9_addStar) 90 = .ok (.aload_n 0, 1) := by decide +kernel
theorem d_X9_addStar_91 : decode (zmc m_X9_addStar) 91 = .ok (.iconst 3, 1) := by decide +kernel
theorem d_X9_addStar_92 : decode (zmc m_X9_addStar) 92 = .ok (.iload 4, 2) := by decide +kernel
theorem d_X9_addStar_94 : decode (zmc m_X9_addStar) 94 = .ok (.iconst 5, 1) := by decide +kernel
theorem d_X9_addStar_95 : decode (zmc m_X9_addStar) 95 = .ok (.invokevirtual 53, 3) := by decide +kernel
theorem d_X9_addStar_98 : decode (zmc m_X9_addStar) 98 = .ok (.iload 4, 2) := by decide +kernel
theorem d_X9_addStar_100 : decode (zmc m_X9_addStar) 100 = .ok (.ireturn, 1) := by decide +kernel
theorem d_X9_addThrower_0 : decode (zmc m_X9_addThrower) 0 = .ok (.aload_n 0, 1) := by decide +kernel
theorem d_X9_addThrower_1 : decode (zmc m_X9_addThrower) 1 = .ok (.bipush 6, 2) := by decide +kernel
theorem d_X9_addThrower_3 : decode (zmc m_X9_addThrower) 3 = .ok (.iload_n 1, 1) := by decide +kernel
theorem d_X9_addThrower_4 : decode (zmc m_X9_addThrower) 4 = .ok (.invokevirtual 50, 3) := by decide +kernel
theorem d_X9_addThrower_7 : decode (zmc m_X9_addThrower) 7 = .ok (.ifCond .ne 5, 3) := by decide +kernel
theorem d_X9_addThrower_10 : decode (zmc m_X9_addThrower) 10 = .ok (.iconst (-1), 1) := by decide +kernel
theorem d_X9_addThrower_11 : decode (zmc m_X9_addThrower) 11 = .ok (.ireturn, 1) := by decide +kernel
theorem d_X9_addThrower_12 : decode (zmc m_X9_addThrower) 12 = .ok (.aload_n 0, 1) := by decide +kernel
theorem d_X9_addThrower_13 : decode (zmc m_X9_addThrower) 13 = .ok (.getfield 27, 3) := by decide +kernel
theorem d_X9_addThrower_16 : decode (zmc m_X9_addThrower) 16 = .ok (.iconst 4, 1) := by decide +kernel
theorem d_X9_addThrower_17 : decode (zmc m_X9_addThrower) 17 = .ok (.if_icmp .lt 6, 3) := by decide +kernel
theorem d_X9_addThrower_20 : decode (zmc m_X9_addThrower) 20 = .ok (.bipush (-3), 2) := by decide +kernel
theorem d_X9_addThrower_22 : decode (zmc m_X9_addThrower) 22 = .ok (.ireturn, 1) := by decide +kernel
theorem d_X9_addThrower_23 : decode (zmc m_X9_addThrower) 23 = .ok (.aload_n 0, 1) := by decide +kernel
theorem d_X9_addThrower_24 : decode (zmc m_X9_addThrower) 24 = .ok (.dup, 1) := by decide +kernel
theorem d_X9_addThrower_25 : decode (zmc m_X9_addThrower) 25 = .ok (.getfield 27, 3) := by decide +kernel
theorem d_X9_addThrower_28 : decode (zmc m_X9_addThrower) 28 = .ok (.dup_x1, 1) := by decide +kernel
theorem d_X9_addThrower_29 : decode (zmc m_X9_addThrower) 29 = .ok (.iconst 1, 1) := by decide +kernel
theorem d_X9_addThrower_30 : decode (zmc m_X9_addThrower) 30 = .ok (.iadd, 1) := by decide +kernel
theorem d_X9_addThrower_31 : decode (zmc m_X9_addThrower) 31 = .ok (.putfield 27, 3) := by decide +kernel
theorem d_X9_addThrower_34 : decode (zmc m_X9_addThrower) 34 = .ok (.istore_n 2, 1) := by decide +kernel
theorem d_X9_addThrower_35 : decode (zmc m_X9_addThrower) 35 = .ok (.aload_n 0, 1) := by decide +kernel
theorem d_X9_addThrower_36 : decode (zmc m_X9_addThrower) 36 = .ok (.bipush 6, 2) := by decide +kernel
theorem d_X9_addThrower_38 : decode (zmc m_X9_addThrower) 38 = .ok (.iload_n 2, 1) := by decide +kernel
theorem d_X9_addThrower_39 : decode (zmc m_X9_addThrower) 39 = .ok (.iload_n 1, 1) := by decide +kernel
theorem d_X9_addThrower_40 : decode (zmc m_X9_addThrower) 40 = .ok (.invokevirtual 53, 3) := by decide +kernel
theorem d_X9_addThrower_43 : decode (zmc m_X9_addThrower) 43 = .ok (.aload_n 0, 1) := by decide +kernel
theorem d_X9_addThrower_44 : decode (zmc m_X9_addThrower) 44 = .ok (.bipush 7, 2) := by decide +kernel
theorem d_X9_addThrower_46 : decode (zmc m_X9_addThrower) 46 = .ok (.iload_n 2, 1) := by decide +kernel
theorem d_X9_addThrower_47 : decode (zmc m_X9_addThrower) 47 = .ok (.iconst 3, 1) := by decide +kernel
theorem d_X9_addThrower_48 : decode (zmc m_X9_addThrower) 48 = .ok (.invokevirtual 53, 3) := by decide +kernel
theorem d_X9_addThrower_51 : decode (zmc m_X9_addThrower) 51 = .ok (.iload_n 2, 1) := by decide +kernel
theorem d_X9_addThrower_52 : decode (zmc m_X9_addThrower) 52 = .ok (.ireturn, 1) := by decide +kernel
theorem d_X9_dropDue_0 : decode (zmc m_X9_dropDue) 0 = .ok (.aload_n 0, 1) := by decide +kernel
theorem d_X9_dropDue_1 : decode (zmc m_X9_dropDue) 1 = .ok (.iconst 4, 1) := by decide +kernel
theorem d_X9_dropDue_2 : decode (zmc m_X9_dropDue) 2 = .ok (.invokevirtual 61, 3) := by decide +kernel
theorem d_X9_dropDue_5 : decode (zmc m_X9_dropDue) 5 = .ok (.aload_n 0, 1) := by decide +kernel
theorem d_X9_dropDue_6 : decode (zmc m_X9_dropDue) 6 = .ok (.aload_n 0, 1) := by decide +kernel
theorem d_X9_dropDue_7 : decode (zmc m_X9_dropDue) 7 = .ok (.bipush 9, 2) := by decide +kernel
theorem d_X9_dropDue_9 : decode (zmc m_X9_dropDue) 9 = .ok (.iconst 0, 1) := by decide +kernel
theorem d_X9_dropDue_10 : decode (zmc m_X9_dropDue) 10 = .ok (.invokevirtual 57, 3) := by decide +kernel
theorem d_X9_dropDue_13 : decode (zmc m_X9_dropDue) 13 = .ok (.invokevirtual 79, 3) := by decide +kernel
theorem d_X9_dropDue_16 : decode (zmc m_X9_dropDue) 16 = .ok (.iconst (-1), 1) := by decide +kernel
theorem d_X9_dropDue_17 : decode (zmc m_X9_dropDue) 17 = .ok (.ixor, 1) := by decide +kernel
theorem d_X9_dropDue_18 : decode (zmc m_X9_dropDue) 18 = .ok (.iand, 1) := by decide +kernel
theorem d_X9_dropDue_19 : decode (zmc m_X9_dropDue) 19 = .ok (.istore_n 1, 1) := by decide +kernel
theorem d_X9_dropDue_20 : decode (zmc m_X9_dropDue) 20 = .ok (.iconst 0, 1) := by decide +kernel
theorem d_X9_dropDue_21 : decode (zmc m_X9_dropDue) 21 = .ok (.istore_n 2, 1) := by decide +kernel
theorem d_X9_dropDue_22 : decode (zmc m_X9_dropDue) 22 = .ok (.iload_n 2, 1) := by decide +kernel
theorem d_X9_dropDue_23 : decode (zmc m_X9_dropDue) 23 = .ok (.aload_n 0, 1) := by decide +kernel
theorem d_X9_dropDue_24 : decode (zmc m_X9_dropDue) 24 = .ok (.getfield 23, 3) := by decide +kernel
theorem d_X9_dropDue_27 : decode (zmc m_X9_dropDue) 27 = .ok (.if_icmp .ge 24, 3) := by decide +kernel
theorem d_X9_dropDue_30 : decode (zmc m_X9_dropDue) 30 = .ok (.iload_n 1, 1) := by decide +kernel
theorem d_X9_dropDue_31 : decode (zmc m_X9_dropDue) 31 = .ok (.iload_n 2, 1) := by decide +kernel
theorem d_X9_dropDue_32 : decode (zmc m_X9_dropDue) 32 = .ok (.ishr, 1) := by decide +kernel
theorem d_X9_dropDue_33 : decode (zmc m_X9_dropDue) 33 = .ok (.iconst 1, 1) := by decide +kernel
theorem d_X9_dropDue_34 : decode (zmc m_X9_dropDue) 34 = .ok (.iand, 1) := by decide +kernel
theorem d_X9_dropDue_35 : decode (zmc m_X9_dropDue) 35 = .ok (.ifCond .eq 10, 3) := by decide +kernel
theorem d_X9_dropDue_38 : decode (zmc m_X9_dropDue) 38 = .ok (.aload_n 0, 1) := by decide +kernel
theorem d_X9_dropDue_39 : decode (zmc m_X9_dropDue) 39 = .ok (.iconst 4, 1) := by decide +kernel
theorem d_X9_dropDue_40 : decode (zmc m_X9_dropDue) 40 = .ok (.iload_n 2, 1) := by decide +kernel
theorem d_X9_dropDue_41 : decode (zmc m_X9_dropDue) 41 = .ok (.iconst 0, 1) := by decide +kernel
theorem d_X9_dropDue_42 : decode (zmc m_X9_dropDue) 42 = .ok (.invokevirtual 53, 3) := by decide +kernel
theorem d_X9_dropDue_45 : decode (zmc m_X9_dropDue) 45 = .ok (.iinc 2 1, 3) := by decide +kernel
theorem d_X9_dropDue_48 : decode (zmc m_X9_dropDue) 48 = .ok (.goto (-26), 3) := by decide +kernel
theorem d_X9_dropDue_51 : decode (zmc m_X9_dropDue) 51 = .ok (.iload_n 1, 1) := by decide +kernel
theorem d_X9_dropDue_52 : decode (zmc m_X9_dropDue) 52 = .ok (.invokestatic 82, 3) := by decide +kernel
theorem d_X9_dropDue_55 : decode (zmc m_X9_dropDue) 55 = .ok (.istore_n 2, 1) := by decide +kernel
theorem d_X9_dropDue_56 : decode (zmc m_X9_dropDue) 56 = .ok (.aload_n 0, 1) := by decide +kernel
theorem d_X9_dropDue_57 : decode (zmc m_X9_dropDue) 57 = .ok (.getfield 20, 3) := by decide +kernel
theorem d_X9_dropDue_60 : decode (zmc m_X9_dropDue) 60 = .ok (.iconst 2, 1) := by decide +kernel
theorem d_X9_dropDue_61 : decode (zmc m_X9_dropDue) 61 = .ok (.dup2, 1) := by decide +kernel
theorem d_X9_dropDue_62 : decode (zmc m_X9_dropDue) 62 = .ok (.iaload, 1) := by decide +kernel
theorem d_X9_dropDue_63 : decode (zmc m_X9_dropDue) 63 = .ok (.iload_n 2, 1) := by decide +kernel
theorem d_X9_dropDue_64 : decode (zmc m_X9_dropDue) 64 = .ok (.iadd, 1) := by decide +kernel
theorem d_X9_dropDue_65 : decode (zmc m_X9_dropDue) 65 = .ok (.iastore, 1) := by decide +kernel
theorem d_X9_dropDue_66 : decode (zmc m_X9_dropDue) 66 = .ok (.iload_n 2, 1) := by decide +kernel
theorem d_X9_dropDue_67 : decode (zmc m_X9_dropDue) 67 = .ok (.ireturn, 1) := by decide +kernel
/-! THE SKY: what changes it -/
def zAdd (I : Nat → Nat → Int32) (ns : Nat) (c b s : Int32) : Int32 × (Nat → Nat → Int32) :=
  if ¬ (zMay 0 c ∧ zMay 1 b ∧ zMay 2 s) then (-1, I) else if ¬ zfind (I 3) c ns 0 = -2 then (-1, I) else if 10 ≤ ns then (-3, I) else (nI ns, zStarI I ns c b s)
def zThrI (I : Nat → Nat → Int32) (nt : Nat) (f : Int32) : Nat → Nat → Int32 := zup (zup (zup I 1 (zup (I 1) 4 (nI (nt + 1)))) 9 (zup (I 9) nt f)) 10 (zup (I 10) nt 3)
def zShpI (I : Nat → Nat → Int32) (nh : Nat) (v : Int32) : Nat → Nat → Int32 := zup (zup I 1 (zup (I 1) 5 (nI (nh + 1)))) 11 (zup (I 11) nh v)
def zDueI (I : Nat → Nat → Int32) (ns : Nat) : Nat → Nat → Int32 := zup (zup I 7 (zDownUp (zDue I ns) (I 7) ns 0)) 15 (zup (I 15) 2 (I 15 2 + zbc (zDue I ns)))
section S10
variable {g : zG} {l : Launch} {d : Nat} {I : Nat → Nat → Int32} {L : Nat → Nat → Int64} {fs : Nat × Nat × Option Nat} {ns nt nh : Nat}
theorem zSky_stars (hK : zSky I ns nt nh) (h : ns < 10) : zSky (zup I 1 (zup (I 1) 3 (nI (ns + 1)))) (ns + 1) nt nh := by
  obtain ⟨⟨k1, k2, k3⟩, k4, k5, k6⟩ := hK
  exact ⟨⟨rfl, k2, k3⟩, by omega, k5, k6⟩
theorem zSky_throwers (hK : zSky I ns nt nh) (h : nt < 4) : zSky (zup I 1 (zup (I 1) 4 (nI (nt + 1)))) ns (nt + 1) nh := by
  obtain ⟨⟨k1, k2, k3⟩, k4, k5, k6⟩ := hK
  exact ⟨⟨k1, rfl, k3⟩, k4, by omega, k6⟩
theorem zSky_ships (hK : zSky I ns nt nh) (h : nh < 6) : zSky (zup I 1 (zup (I 1) 5 (nI (nh + 1)))) ns nt (nh + 1) := by
  obtain ⟨⟨k1, k2, k3⟩, k4, k5, k6⟩ := hK
  exact ⟨⟨k1, k2, rfl⟩, k4, k5, by omega⟩
theorem sp_X9_addStar (hd : 4 ≤ d) (hK : zSky I ns nt nh) {c b s : Int32} : zSp g l d 100 m_X9_addStar [.ref 1, .int c, .int b, .int s] (zU I L fs) (zX (fun x w => x = (zAdd I ns c b s).1 ∧ w = zU (zAdd I ns c b s).2 L fs)) := by
  have k4 := hK.2.1
  have bad : ¬ (zMay 0 c ∧ zMay 1 b ∧ zMay 2 s) → zAdd I ns c b s = (-1, I) := fun h => by unfold zAdd; exact if_pos h
  refine zSp_of (lv := [(0, .ref 1), (1, .int c), (2, .int b), (3, .int s)]) k_X9_addStar rfl (Nat.le_of_ble_eq_true rfl) ?_
  refine zAloadN d_X9_addStar_0 rfl rfl (q := 1) rfl ?_
  refine zIconst d_X9_addStar_1 (v := 0) ic_0 (q := 2) rfl ?_
  refine zIloadN d_X9_addStar_2 rfl rfl (q := 3) rfl ?_
  refine zCallVP d_X9_addStar_3 ml_X9_50 k_X9_mayBe ki_X9_mayBe ks_X9_mayBe (sp_X9_mayBe (d := d - 1) (by omega) ) rfl rfl sh_1 (by decide) rfl (by decide) (Nat.le_of_ble_eq_true rfl) (by decide) (by omega) zns100 (q := 6) rfl ?_
  refine zIf_eq d_X9_addStar_6 (tgt := 27) (q := 9) (by decide) rfl (fun h6 => ?_) (fun h6 => ?_)
  · refine zIconst d_X9_addStar_27 (v := -1) ic_m1 (q := 28) rfl ?_
    refine zIret d_X9_addStar_28 rfl rfl rfl ?_
    first | exact ⟨_, rfl, by rw [bad (fun q => bi_0.mp h6 q.1)], by rw [bad (fun q => bi_0.mp h6 q.1)]⟩ | exact ⟨_, rfl, by rw [bad (fun q => bi_0.mp h15 q.2.1)], by rw [bad (fun q => bi_0.mp h15 q.2.1)]⟩ | exact ⟨_, rfl, by rw [bad (fun q => bi_0.mp h24 q.2.2)], by rw [bad (fun q => bi_0.mp h24 q.2.2)]⟩
  · refine zAloadN d_X9_addStar_9 rfl rfl (q := 10) rfl ?_
    refine zIconst d_X9_addStar_10 (v := 1) ic_1 (q := 11) rfl ?_
    refine zIloadN d_X9_addStar_11 rfl rfl (q := 12) rfl ?_
    refine zCallVP d_X9_addStar_12 ml_X9_50 k_X9_mayBe ki_X9_mayBe ks_X9_mayBe (sp_X9_mayBe (d := d - 1) (by omega) ) rfl rfl sh_1 (by decide) rfl (by decide) (Nat.le_of_ble_eq_true rfl) (by decide) (by omega) zns100 (q := 15) rfl ?_
    refine zIf_eq d_X9_addStar_15 (tgt := 27) (q := 18) (by decide) rfl (fun h15 => ?_) (fun h15 => ?_)
    · refine zIconst d_X9_addStar_27 (v := -1) ic_m1 (q := 28) rfl ?_
      refine zIret d_X9_addStar_28 rfl rfl rfl ?_
      first | exact ⟨_, rfl, by rw [bad (fun q => bi_0.mp h6 q.1)], by rw [bad (fun q => bi_0.mp h6 q.1)]⟩ | exact ⟨_, rfl, by rw [bad (fun q => bi_0.mp h15 q.2.1)], by rw [bad (fun q => bi_0.mp h15 q.2.1)]⟩ | exact ⟨_, rfl, by rw [bad (fun q => bi_0.mp h24 q.2.2)], by rw [bad (fun q => bi_0.mp h24 q.2.2)]⟩
    · refine zAloadN d_X9_addStar_18 rfl rfl (q := 19) rfl ?_
      refine zIconst d_X9_addStar_19 (v := 2) ic_2 (q := 20) rfl ?_
      refine zIloadN d_X9_addStar_20 rfl rfl (q := 21) rfl ?_
      refine zCallVP d_X9_addStar_21 ml_X9_50 k_X9_mayBe ki_X9_mayBe ks_X9_mayBe (sp_X9_mayBe (d := d - 1) (by omega) ) rfl rfl sh_1 (by decide) rfl (by decide) (Nat.le_of_ble_eq_true rfl) (by decide) (by omega) zns100 (q := 24) rfl ?_
      refine zIf_ne d_X9_addStar_24 (tgt := 29) (q := 27) (by decide) rfl (fun h24 => ?_) (fun h24 => ?_)
      · have hm : zMay 0 c ∧ zMay 1 b ∧ zMay 2 s := ⟨bi_n0.mp h6, bi_n0.mp h15, bi_n0.mp h24⟩
        refine zAloadN d_X9_addStar_29 rfl rfl (q := 30) rfl ?_
        refine zIloadN d_X9_addStar_30 rfl rfl (q := 31) rfl ?_
        refine zCallVP d_X9_addStar_31 ml_X9_47 k_X9_starIn ki_X9_starIn ks_X9_starIn (sp_X9_starIn (d := d - 1) (by omega) hK) rfl rfl sh_1 (by decide) rfl (by decide) (Nat.le_of_ble_eq_true rfl) (by decide) (by omega) zns100 (q := 34) rfl ?_
        refine zBipush d_X9_addStar_34 (v := -2) bc_m2 (q := 36) rfl ?_
        refine zIcmp_eq d_X9_addStar_36 (tgt := 41) (q := 39) (by decide) rfl (fun h36 => ?_) (fun h36 => ?_)
        · refine zAloadN d_X9_addStar_41 rfl rfl (q := 42) rfl ?_
          refine zGetI d_X9_addStar_42 ff_X9_23 sh_1 (by decide) (q := 45) rfl ?_
          refine zBipush d_X9_addStar_45 (v := 10) bc_10 (q := 47) rfl ?_
          refine zIcmp_lt d_X9_addStar_47 (tgt := 53) (q := 50) (by decide) rfl (fun h47 => ?_) (fun h47 => ?_)
          · have hlt : ns < 10 := by rw [hK.1.1] at h47; exact nlt (b := 10) h47
            refine zAloadN d_X9_addStar_53 rfl rfl (q := 54) rfl ?_
            refine zDup d_X9_addStar_54 rfl (q := 55) rfl ?_
            refine zGetI d_X9_addStar_55 ff_X9_23 sh_1 (by decide) (q := 58) rfl ?_
            refine zDupx1 d_X9_addStar_58 rfl rfl (q := 59) rfl ?_
            refine zIconst d_X9_addStar_59 (v := 1) ic_1 (q := 60) rfl ?_
            refine zIadd d_X9_addStar_60 (q := 61) rfl ?_
            refine zPutI d_X9_addStar_61 ff_X9_23 rfl rfl rfl sh_1 (by decide) (q := 64) rfl ?_
            refine zIstore d_X9_addStar_64 (by decide) rfl (q := 66) rfl ?_
            rw [hK.1.1, nI_1]
            have hK1 := zSky_stars hK hlt
            have e : zAdd I ns c b s = (nI ns, zStarI I ns c b s) := by unfold zAdd; rw [if_neg (fun q => q hm), if_neg (fun q => q h36), if_neg (by omega)]
            refine zAloadN d_X9_addStar_66 rfl rfl (q := 67) rfl ?_
            refine zIconst d_X9_addStar_67 (v := 0) ic_0 (q := 68) rfl ?_
            refine zIload d_X9_addStar_68 rfl (q := 70) rfl ?_
            refine zIloadN d_X9_addStar_70 rfl rfl (q := 71) rfl ?_
            refine zCallVV d_X9_addStar_71 ml_X9_53 k_X9_set ki_X9_set ks_X9_set (sp_set0 (d := d - 1) (by omega) hK1 (k := ns) (by omega)) rfl rfl sh_1 (by decide) rfl (by decide) (Nat.le_of_ble_eq_true rfl) (by decide) (by omega) zns100 (q := 74) rfl (fun w' hw' => ?_)
            subst hw'
            have hK2 := zSky_up (a := 3) (f := zup (I 3) ns c) hK1 (by decide)
            refine zAloadN d_X9_addStar_74 rfl rfl (q := 75) rfl ?_
            refine zIconst d_X9_addStar_75 (v := 1) ic_1 (q := 76) rfl ?_
            refine zIload d_X9_addStar_76 rfl (q := 78) rfl ?_
            refine zIloadN d_X9_addStar_78 rfl rfl (q := 79) rfl ?_
            refine zCallVV d_X9_addStar_79 ml_X9_53 k_X9_set ki_X9_set ks_X9_set (sp_set1 (d := d - 1) (by omega) hK2 (k := ns) (by omega)) rfl rfl sh_1 (by decide) rfl (by decide) (Nat.le_of_ble_eq_true rfl) (by decide) (by omega) zns100 (q := 82) rfl (fun w' hw' => ?_)
            subst hw'
            have hK3 := zSky_up (a := 4) (f := zup (I 4) ns b) hK2 (by decide)
            refine zAloadN d_X9_addStar_82 rfl rfl (q := 83) rfl ?_
            refine zIconst d_X9_addStar_83 (v := 2) ic_2 (q := 84) rfl ?_
            refine zIload d_X9_addStar_84 rfl (q := 86) rfl ?_
            refine zIloadN d_X9_addStar_86 rfl rfl (q := 87) rfl ?_
            refine zCallVV d_X9_addStar_87 ml_X9_53 k_X9_set ki_X9_set ks_X9_set (sp_set2 (d := d - 1) (by omega) hK3 (k := ns) (by omega)) rfl rfl sh_1 (by decide) rfl (by decide) (Nat.le_of_ble_eq_true rfl) (by decide) (by omega) zns100 (q := 90) rfl (fun w' hw' => ?_)
            subst hw'
            have hK4 := zSky_up (a := 5) (f := zup (I 5) ns s) hK3 (by decide)
            refine zAloadN d_X9_addStar_90 rfl rfl (q := 91) rfl ?_
            refine zIconst d_X9_addStar_91 (v := 3) ic_3 (q := 92) rfl ?_
            refine zIload d_X9_addStar_92 rfl (q := 94) rfl ?_
            refine zIconst d_X9_addStar_94 (v := 5) ic_5 (q := 95) rfl ?_
            refine zCallVV d_X9_addStar_95 ml_X9_53 k_X9_set ki_X9_set ks_X9_set (sp_set3 (d := d - 1) (by omega) hK4 (k := ns) (by omega)) rfl rfl sh_1 (by decide) rfl (by decide) (Nat.le_of_ble_eq_true rfl) (by decide) (by omega) zns100 (q := 98) rfl (fun w' hw' => ?_)
            subst hw'
            refine zIload d_X9_addStar_98 rfl (q := 100) rfl ?_
            refine zIret d_X9_addStar_100 rfl rfl rfl ?_
            exact ⟨_, rfl, by rw [e], by rw [e]; rfl⟩
          · refine zBipush d_X9_addStar_50 (v := -3) bc_m3 (q := 52) rfl ?_
            refine zIret d_X9_addStar_52 rfl rfl rfl ?_
            have e : zAdd I ns c b s = (-3, I) := by unfold zAdd; rw [if_neg (fun q => q hm), if_neg (fun q => q h36), if_pos (by rw [hK.1.1] at h47; exact nnlt (b := 10) h47)]
            exact ⟨_, rfl, by rw [e], by rw [e]⟩
        · refine zIconst d_X9_addStar_39 (v := -1) ic_m1 (q := 40) rfl ?_
          refine zIret d_X9_addStar_40 rfl rfl rfl ?_
          have e : zAdd I ns c b s = (-1, I) := by unfold zAdd; rw [if_neg (fun q => q hm), if_pos h36]
          exact ⟨_, rfl, by rw [e], by rw [e]⟩
      · refine zIconst d_X9_addStar_27 (v := -1) ic_m1 (q := 28) rfl ?_
        refine zIret d_X9_addStar_28 rfl rfl rfl ?_
        first | exact ⟨_, rfl, by rw [bad (fun q => bi_0.mp h6 q.1)], by rw [bad (fun q => bi_0.mp h6 q.1)]⟩ | exact ⟨_, rfl, by rw [bad (fun q => bi_0.mp h15 q.2.1)], by rw [bad (fun q => bi_0.mp h15 q.2.1)]⟩ | exact ⟨_, rfl, by rw [bad (fun q => bi_0.mp h24 q.2.2)], by rw [bad (fun q => bi_0.mp h24 q.2.2)]⟩
theorem sp_X9_addThrower (hd : 4 ≤ d) (hK : zSky I ns nt nh) {f : Int32} : zSp g l d 100 m_X9_addThrower [.ref 1, .int f] (zU I L fs) (zX (fun x w => (¬ zMay 6 f ∧ x = -1 ∧ w = zU I L fs) ∨ (zMay 6 f ∧ 4 ≤ nt ∧ x = -3 ∧ w = zU I L fs) ∨ (zMay 6 f ∧ nt < 4 ∧ x = nI nt ∧ w = zU (zThrI I nt f) L fs))) := by
  have k4 := hK.2.2.1
  refine zSp_of (lv := [(0, .ref 1), (1, .int f)]) k_X9_addThrower rfl (Nat.le_of_ble_eq_true rfl) ?_
  refine zAloadN d_X9_addThrower_0 rfl rfl (q := 1) rfl ?_
  refine zBipush d_X9_addThrower_1 (v := 6) bc_6 (q := 3) rfl ?_
  refine zIloadN d_X9_addThrower_3 rfl rfl (q := 4) rfl ?_
  refine zCallVP d_X9_addThrower_4 ml_X9_50 k_X9_mayBe ki_X9_mayBe ks_X9_mayBe (sp_X9_mayBe (d := d - 1) (by omega) ) rfl rfl sh_1 (by decide) rfl (by decide) (Nat.le_of_ble_eq_true rfl) (by decide) (by omega) zns100 (q := 7) rfl ?_
  refine zIf_ne d_X9_addThrower_7 (tgt := 12) (q := 10) (by decide) rfl (fun h7 => ?_) (fun h7 => ?_)
  · refine zAloadN d_X9_addThrower_12 rfl rfl (q := 13) rfl ?_
    refine zGetI d_X9_addThrower_13 ff_X9_27 sh_1 (by decide) (q := 16) rfl ?_
    refine zIconst d_X9_addThrower_16 (v := 4) ic_4 (q := 17) rfl ?_
    refine zIcmp_lt d_X9_addThrower_17 (tgt := 23) (q := 20) (by decide) rfl (fun h17 => ?_) (fun h17 => ?_)
    · have hlt : nt < 4 := by rw [hK.1.2.1] at h17; exact nlt (b := 4) h17
      refine zAloadN d_X9_addThrower_23 rfl rfl (q := 24) rfl ?_
      refine zDup d_X9_addThrower_24 rfl (q := 25) rfl ?_
      refine zGetI d_X9_addThrower_25 ff_X9_27 sh_1 (by decide) (q := 28) rfl ?_
      refine zDupx1 d_X9_addThrower_28 rfl rfl (q := 29) rfl ?_
      refine zIconst d_X9_addThrower_29 (v := 1) ic_1 (q := 30) rfl ?_
      refine zIadd d_X9_addThrower_30 (q := 31) rfl ?_
      refine zPutI d_X9_addThrower_31 ff_X9_27 rfl rfl rfl sh_1 (by decide) (q := 34) rfl ?_
      refine zIstoreN d_X9_addThrower_34 rfl (by decide) rfl (q := 35) rfl ?_
      rw [hK.1.2.1, nI_1]
      have hK1 := zSky_throwers hK hlt
      refine zAloadN d_X9_addThrower_35 rfl rfl (q := 36) rfl ?_
      refine zBipush d_X9_addThrower_36 (v := 6) bc_6 (q := 38) rfl ?_
      refine zIloadN d_X9_addThrower_38 rfl rfl (q := 39) rfl ?_
      refine zIloadN d_X9_addThrower_39 rfl rfl (q := 40) rfl ?_
      refine zCallVV d_X9_addThrower_40 ml_X9_53 k_X9_set ki_X9_set ks_X9_set (sp_set6 (d := d - 1) (by omega) hK1 (k := nt) (by omega)) rfl rfl sh_1 (by decide) rfl (by decide) (Nat.le_of_ble_eq_true rfl) (by decide) (by omega) zns100 (q := 43) rfl (fun w' hw' => ?_)
      subst hw'
      have hK2 := zSky_up (a := 9) (f := zup (I 9) nt f) hK1 (by decide)
      refine zAloadN d_X9_addThrower_43 rfl rfl (q := 44) rfl ?_
      refine zBipush d_X9_addThrower_44 (v := 7) bc_7 (q := 46) rfl ?_
      refine zIloadN d_X9_addThrower_46 rfl rfl (q := 47) rfl ?_
      refine zIconst d_X9_addThrower_47 (v := 3) ic_3 (q := 48) rfl ?_
      refine zCallVV d_X9_addThrower_48 ml_X9_53 k_X9_set ki_X9_set ks_X9_set (sp_set7 (d := d - 1) (by omega) hK2 (k := nt) (by omega)) rfl rfl sh_1 (by decide) rfl (by decide) (Nat.le_of_ble_eq_true rfl) (by decide) (by omega) zns100 (q := 51) rfl (fun w' hw' => ?_)
      subst hw'
      refine zIloadN d_X9_addThrower_51 rfl rfl (q := 52) rfl ?_
      refine zIret d_X9_addThrower_52 rfl rfl rfl ?_
      exact ⟨_, rfl, Or.inr (Or.inr ⟨bi_n0.mp h7, hlt, rfl, rfl⟩)⟩
    · refine zBipush d_X9_addThrower_20 (v := -3) bc_m3 (q := 22) rfl ?_
      refine zIret d_X9_addThrower_22 rfl rfl rfl ?_
      exact ⟨_, rfl, Or.inr (Or.inl ⟨bi_n0.mp h7, by rw [hK.1.2.1] at h17; exact nnlt (b := 4) h17, rfl, rfl⟩)⟩
  · refine zIconst d_X9_addThrower_10 (v := -1) ic_m1 (q := 11) rfl ?_
    refine zIret d_X9_addThrower_11 rfl rfl rfl ?_
    exact ⟨_, rfl, Or.inl ⟨bi_0.mp h7, rfl, rfl⟩⟩
theorem sp_X9_addShip (hd : 4 ≤ d) (hK : zSky I ns nt nh) {f : Int32} : zSp g l d 100 m_X9_addShip [.ref 1, .int f] (zU I L fs) (zX (fun x w => (¬ zMay 8 f ∧ x = -1 ∧ w = zU I L fs) ∨ (zMay 8 f ∧ 6 ≤ nh ∧ x = -3 ∧ w = zU I L fs) ∨ (zMay 8 f ∧ nh < 6 ∧ x = nI nh ∧ w = zU (zShpI I nh f) L fs))) := by
  have k4 := hK.2.2.2
  refine zSp_of (lv := [(0, .ref 1), (1, .int f)]) k_X9_addShip rfl (Nat.le_of_ble_eq_true rfl) ?_
  refine zAloadN d_X9_addShip_0 rfl rfl (q := 1) rfl ?_
  refine zBipush d_X9_addShip_1 (v := 8) bc_8 (q := 3) rfl ?_
  refine zIloadN d_X9_addShip_3 rfl rfl (q := 4) rfl ?_
  refine zCallVP d_X9_addShip_4 ml_X9_50 k_X9_mayBe ki_X9_mayBe ks_X9_mayBe (sp_X9_mayBe (d := d - 1) (by omega) ) rfl rfl sh_1 (by decide) rfl (by decide) (Nat.le_of_ble_eq_true rfl) (by decide) (by omega) zns100 (q := 7) rfl ?_
  refine zIf_ne d_X9_addShip_7 (tgt := 12) (q := 10) (by decide) rfl (fun h7 => ?_) (fun h7 => ?_)
  · refine zAloadN d_X9_addShip_12 rfl rfl (q := 13) rfl ?_
    refine zGetI d_X9_addShip_13 ff_X9_30 sh_1 (by decide) (q := 16) rfl ?_
    refine zBipush d_X9_addShip_16 (v := 6) bc_6 (q := 18) rfl ?_
    refine zIcmp_lt d_X9_addShip_18 (tgt := 24) (q := 21) (by decide) rfl (fun h18 => ?_) (fun h18 => ?_)
    · have hlt : nh < 6 := by rw [hK.1.2.2] at h18; exact nlt (b := 6) h18
      refine zAloadN d_X9_addShip_24 rfl rfl (q := 25) rfl ?_
      refine zDup d_X9_addShip_25 rfl (q := 26) rfl ?_
      refine zGetI d_X9_addShip_26 ff_X9_30 sh_1 (by decide) (q := 29) rfl ?_
      refine zDupx1 d_X9_addShip_29 rfl rfl (q := 30) rfl ?_
      refine zIconst d_X9_addShip_30 (v := 1) ic_1 (q := 31) rfl ?_
      refine zIadd d_X9_addShip_31 (q := 32) rfl ?_
      refine zPutI d_X9_addShip_32 ff_X9_30 rfl rfl rfl sh_1 (by decide) (q := 35) rfl ?_
      refine zIstoreN d_X9_addShip_35 rfl (by decide) rfl (q := 36) rfl ?_
      rw [hK.1.2.2, nI_1]
      have hK1 := zSky_ships hK hlt
      refine zAloadN d_X9_addShip_36 rfl rfl (q := 37) rfl ?_
      refine zBipush d_X9_addShip_37 (v := 8) bc_8 (q := 39) rfl ?_
      refine zIloadN d_X9_addShip_39 rfl rfl (q := 40) rfl ?_
      refine zIloadN d_X9_addShip_40 rfl rfl (q := 41) rfl ?_
      refine zCallVV d_X9_addShip_41 ml_X9_53 k_X9_set ki_X9_set ks_X9_set (sp_set8 (d := d - 1) (by omega) hK1 (k := nh) (by omega)) rfl rfl sh_1 (by decide) rfl (by decide) (Nat.le_of_ble_eq_true rfl) (by decide) (by omega) zns100 (q := 44) rfl (fun w' hw' => ?_)
      subst hw'
      refine zIloadN d_X9_addShip_44 rfl rfl (q := 45) rfl ?_
      refine zIret d_X9_addShip_45 rfl rfl rfl ?_
      exact ⟨_, rfl, Or.inr (Or.inr ⟨bi_n0.mp h7, hlt, rfl, rfl⟩)⟩
    · refine zBipush d_X9_addShip_21 (v := -3) bc_m3 (q := 23) rfl ?_
      refine zIret d_X9_addShip_23 rfl rfl rfl ?_
      exact ⟨_, rfl, Or.inr (Or.inl ⟨bi_n0.mp h7, by rw [hK.1.2.2] at h18; exact nnlt (b := 6) h18, rfl, rfl⟩)⟩
  · refine zIconst d_X9_addShip_10 (v := -1) ic_m1 (q := 11) rfl ?_
    refine zIret d_X9_addShip_11 rfl rfl rfl ?_
    exact ⟨_, rfl, Or.inl ⟨bi_0.mp h7, rfl, rfl⟩⟩
theorem sp_X9_dropDue (hd : 6 ≤ d) (hK : zSky I ns nt nh) : zSp g l d 100 m_X9_dropDue [.ref 1] (zU I L fs) (zX (fun x w => x = zbc (zDue I ns) ∧ w = zU (zDueI I ns) L fs)) := by
  have hn := hK.2.1
  have loop : ∀ k, k ≤ ns → ∀ f, zDownUp (zDue I ns) f ns k = zDownUp (zDue I ns) (I 7) ns 0 → zA g l d m_X9_dropDue (zup I 7 f) L fs 22 [(2, .int (nI k)), (1, .int (zDue I ns)), (0, .ref 1)] (zX (fun x w => x = zbc (zDue I ns) ∧ w = zU (zDueI I ns) L fs)) := by
    refine zloop ns (fun k hk ih f hx => ?_)
    have hK1 := zSky_up (a := 7) (f := f) hK (by decide)
    refine zIloadN d_X9_dropDue_22 rfl rfl (q := 23) rfl ?_
    refine zAloadN d_X9_dropDue_23 rfl rfl (q := 24) rfl ?_
    refine zGetI d_X9_dropDue_24 ff_X9_23 sh_1 (by decide) (q := 27) rfl ?_
    refine zIcmp_ge d_X9_dropDue_27 (tgt := 51) (q := 30) (by decide) rfl (fun h27 => ?_) (fun h27 => ?_)
    · have e := nle (hK1.1.1 ▸ h27)
      have ef : f = zDownUp (zDue I ns) (I 7) ns 0 := by rw [← hx]; unfold zDownUp; rw [zfor_end e]
      refine zIloadN d_X9_dropDue_51 rfl rfl (q := 52) rfl ?_
      refine zCallSP d_X9_dropDue_52 ml_X9_82 k_J6_bitCount kt_J6_bitCount (sp_J6_bitCount (d := d - 1) (by omega) ) rfl rfl (Nat.le_of_ble_eq_true rfl) (by decide) (by omega) zns100 (q := 55) rfl ?_
      refine zIstoreN d_X9_dropDue_55 rfl (by decide) rfl (q := 56) rfl ?_
      refine zAloadN d_X9_dropDue_56 rfl rfl (q := 57) rfl ?_
      refine zGetR d_X9_dropDue_57 ff_X9_20 sh_1 (by decide) r_1_2 (q := 60) rfl ?_
      refine zIconst d_X9_dropDue_60 (v := 2) ic_2 (q := 61) rfl ?_
      refine zDup2 d_X9_dropDue_61 rfl rfl (q := 62) rfl ?_
      refine zIald d_X9_dropDue_62 sh_15 (by decide) (j := 2) rfl (by decide) (q := 63) rfl ?_
      refine zIloadN d_X9_dropDue_63 rfl rfl (q := 64) rfl ?_
      refine zIadd d_X9_dropDue_64 (q := 65) rfl ?_
      refine zIast d_X9_dropDue_65 sh_15 (by decide) (j := 2) rfl (by decide) (q := 66) rfl ?_
      refine zIloadN d_X9_dropDue_66 rfl rfl (q := 67) rfl ?_
      refine zIret d_X9_dropDue_67 rfl rfl rfl ?_
      exact ⟨_, rfl, rfl, by rw [ef]; rfl⟩
    · have hlt := nnle (hK1.1.1 ▸ h27)
      unfold zDownUp at hx
      rw [zfor_step hlt] at hx
      refine zIloadN d_X9_dropDue_30 rfl rfl (q := 31) rfl ?_
      refine zIloadN d_X9_dropDue_31 rfl rfl (q := 32) rfl ?_
      refine zIshr d_X9_dropDue_32 (q := 33) rfl ?_
      refine zIconst d_X9_dropDue_33 (v := 1) ic_1 (q := 34) rfl ?_
      refine zIand d_X9_dropDue_34 (q := 35) rfl ?_
      refine zIf_eq d_X9_dropDue_35 (tgt := 45) (q := 38) (by decide) rfl (fun h35 => ?_) (fun h35 => ?_)
      · refine zIinc d_X9_dropDue_45 rfl (zinc _) (by decide) rfl (q := 48) rfl ?_
        refine zGoto d_X9_dropDue_48 (q := 22) (by decide) ?_
        refine zSub [0, 1, 2] rfl ?_
        exact ih hlt _ (by unfold zDownUp; rw [← hx]; congr 1; first | exact (if_pos h35).symm | exact (if_neg h35).symm)
      · refine zAloadN d_X9_dropDue_38 rfl rfl (q := 39) rfl ?_
        refine zIconst d_X9_dropDue_39 (v := 4) ic_4 (q := 40) rfl ?_
        refine zIloadN d_X9_dropDue_40 rfl rfl (q := 41) rfl ?_
        refine zIconst d_X9_dropDue_41 (v := 0) ic_0 (q := 42) rfl ?_
        refine zCallVV d_X9_dropDue_42 ml_X9_53 k_X9_set ki_X9_set ks_X9_set (sp_set4 (d := d - 1) (by omega) hK1 hlt) rfl rfl sh_1 (by decide) rfl (by decide) (Nat.le_of_ble_eq_true rfl) (by decide) (by omega) zns100 (q := 45) rfl (fun w' hw' => ?_)
        subst hw'
        rw [zup_zup, zup_eq]
        refine zIinc d_X9_dropDue_45 rfl (zinc _) (by decide) rfl (q := 48) rfl ?_
        refine zGoto d_X9_dropDue_48 (q := 22) (by decide) ?_
        refine zSub [0, 1, 2] rfl ?_
        exact ih hlt _ (by unfold zDownUp; rw [← hx]; congr 1; first | exact (if_pos h35).symm | exact (if_neg h35).symm)
  have e7 : zup I 7 (I 7) = I := by funext a; unfold zup; split <;> simp_all
  refine zSp_of (lv := [(0, .ref 1)]) k_X9_dropDue rfl (Nat.le_of_ble_eq_true rfl) ?_
  refine zAloadN d_X9_dropDue_0 rfl rfl (q := 1) rfl ?_
  refine zIconst d_X9_dropDue_1 (v := 4) ic_4 (q := 2) rfl ?_
  refine zCallVP d_X9_dropDue_2 ml_X9_61 k_X9_bits ki_X9_bits ks_X9_bits (sp_X9_bits4 (d := d - 1) (by omega) hK) rfl rfl sh_1 (by decide) rfl (by decide) (Nat.le_of_ble_eq_true rfl) (by decide) (by omega) zns100 (q := 5) rfl ?_
  refine zAloadN d_X9_dropDue_5 rfl rfl (q := 6) rfl ?_
  refine zAloadN d_X9_dropDue_6 rfl rfl (q := 7) rfl ?_
  refine zBipush d_X9_dropDue_7 (v := 9) bc_9 (q := 9) rfl ?_
  refine zIconst d_X9_dropDue_9 (v := 0) ic_0 (q := 10) rfl ?_
  refine zCallVP d_X9_dropDue_10 ml_X9_57 k_X9_get ki_X9_get ks_X9_get (sp_get9 (d := d - 1) (by omega) hK) rfl rfl sh_1 (by decide) rfl (by decide) (Nat.le_of_ble_eq_true rfl) (by decide) (by omega) zns100 (q := 13) rfl ?_
  refine zCallVP d_X9_dropDue_13 ml_X9_79 k_X9_upAfter ki_X9_upAfter ks_X9_upAfter (sp_X9_upAfter (d := d - 1) (by omega) hK) rfl rfl sh_1 (by decide) rfl (by decide) (Nat.le_of_ble_eq_true rfl) (by decide) (by omega) zns100 (q := 16) rfl ?_
  refine zIconst d_X9_dropDue_16 (v := -1) ic_m1 (q := 17) rfl ?_
  refine zIxor d_X9_dropDue_17 (q := 18) rfl ?_
  refine zIand d_X9_dropDue_18 (q := 19) rfl ?_
  refine zIstoreN d_X9_dropDue_19 rfl (by decide) rfl (q := 20) rfl ?_
  refine zIconst d_X9_dropDue_20 (v := 0) ic_0 (q := 21) rfl ?_
  refine zIstoreN d_X9_dropDue_21 rfl (by decide) rfl (q := 22) rfl ?_
  refine zSub [0, 1, 2] rfl ?_
  exact (e7 ▸ loop 0 (Nat.zero_le _) (I 7) rfl : zA g l d m_X9_dropDue I L fs 22 [(2, .int (nI 0)), (1, .int (zDue I ns)), (0, .ref 1)] _)
end S10

