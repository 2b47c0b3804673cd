theorem d_X11_byTurns_0 : decode (zmc m_X11_byTurns) 0 = .ok (.iload_n 1, 1) := by decide +kernel
theorem d_X11_byTurns_1 : decode (zmc m_X11_byTurns) 1 = .ok (.iconst 1, 1) := by decide +kernel
theorem d_X11_byTurns_2 : decode (zmc m_X11_byTurns) 2 = .ok (.if_icmp .lt 17, 3) := by decide +kernel
theorem d_X11_byTurns_5 : decode (zmc m_X11_byTurns) 5 = .ok (.iload_n 1, 1) := by decide +kernel
theorem d_X11_byTurns_6 : decode (zmc m_X11_byTurns) 6 = .ok (.iconst 4, 1) := by decide +kernel
theorem d_X11_byTurns_7 : decode (zmc m_X11_byTurns) 7 = .ok (.if_icmp .gt 12, 3) := by decide +kernel
theorem d_X11_byTurns_10 : decode (zmc m_X11_byTurns) 10 = .ok (.iload_n 2, 1) := by decide +kernel
theorem d_X11_byTurns_11 : decode (zmc m_X11_byTurns) 11 = .ok (.ifCond .lt 8, 3) := by decide +kernel
theorem d_X11_byTurns_14 : decode (zmc m_X11_byTurns) 14 = .ok (.iload_n 2, 1) := by decide +kernel
theorem d_X11_byTurns_15 : decode (zmc m_X11_byTurns) 15 = .ok (.iconst 1, 1) := by decide +kernel
theorem d_X11_byTurns_16 : decode (zmc m_X11_byTurns) 16 = .ok (.if_icmp .le 5, 3) := by decide +kernel
theorem d_X11_byTurns_19 : decode (zmc m_X11_byTurns) 19 = .ok (.iconst (-1), 1) := by decide +kernel
theorem d_X11_byTurns_20 : decode (zmc m_X11_byTurns) 20 = .ok (.ireturn, 1) := by decide +kernel
theorem d_X11_byTurns_21 : decode (zmc m_X11_byTurns) 21 = .ok (.aload_n 0, 1) := by decide +kernel
theorem d_X11_byTurns_22 : decode (zmc m_X11_byTurns) 22 = .ok (.getfield 21, 3) := by decide +kernel
theorem d_X11_byTurns_25 : decode (zmc m_X11_byTurns) 25 = .ok (.iload_n 1, 1) := by decide +kernel
theorem d_X11_byTurns_26 : decode (zmc m_X11_byTurns) 26 = .ok (.invokevirtual 262, 3) := by decide +kernel
theorem d_X11_byTurns_29 : decode (zmc m_X11_byTurns) 29 = .ok (.iload_n 2, 1) := by decide +kernel
theorem d_X11_byTurns_30 : decode (zmc m_X11_byTurns) 30 = .ok (.ifCond .ne 13, 3) := by decide +kernel
theorem d_X11_byTurns_33 : decode (zmc m_X11_byTurns) 33 = .ok (.aload_n 0, 1) := by decide +kernel
theorem d_X11_byTurns_34 : decode (zmc m_X11_byTurns) 34 = .ok (.getfield 21, 3) := by decide +kernel
theorem d_X11_byTurns_37 : decode (zmc m_X11_byTurns) 37 = .ok (.getfield 266, 3) := by decide +kernel
theorem d_X11_byTurns_40 : decode (zmc m_X11_byTurns) 40 = .ok (.goto 10, 3) := by decide +kernel
theorem d_X11_byTurns_43 : decode (zmc m_X11_byTurns) 43 = .ok (.aload_n 0, 1) := by decide +kernel
theorem d_X11_byTurns_44 : decode (zmc m_X11_byTurns) 44 = .ok (.getfield 21, 3) := by decide +kernel
theorem d_X11_byTurns_47 : decode (zmc m_X11_byTurns) 47 = .ok (.getfield 269, 3) := by decide +kernel
theorem d_X11_byTurns_50 : decode (zmc m_X11_byTurns) 50 = .ok (.ireturn, 1) := by decide +kernel
theorem d_X11_law_0 : decode (zmc m_X11_law) 0 = .ok (.aload_n 0, 1) := by decide +kernel
theorem d_X11_law_1 : decode (zmc m_X11_law) 1 = .ok (.getfield 49, 3) := by decide +kernel
theorem d_X11_law_4 : decode (zmc m_X11_law) 4 = .ok (.aload_n 0, 1) := by decide +kernel
theorem d_X11_law_5 : decode (zmc m_X11_law) 5 = .ok (.getfield 88, 3) := by decide +kernel
theorem d_X11_law_8 : decode (zmc m_X11_law) 8 = .ok (.invokevirtual 145, 3) := by decide +kernel
theorem d_X11_law_11 : decode (zmc m_X11_law) 11 = .ok (.istore_n 1, 1) := by decide +kernel
theorem d_X11_law_12 : decode (zmc m_X11_law) 12 = .ok (.aload_n 0, 1) := by decide +kernel
theorem d_X11_law_13 : decode (zmc m_X11_law) 13 = .ok (.getfield 49, 3) := by decide +kernel
theorem d_X11_law_16 : decode (zmc m_X11_law) 16 = .ok (.invokevirtual 149, 3) := by decide +kernel
theorem d_X11_law_19 : decode (zmc m_X11_law) 19 = .ok (.iload_n 1, 1) := by decide +kernel
theorem d_X11_law_20 : decode (zmc m_X11_law) 20 = .ok (.ifCond .lt 8, 3) := by decide +kernel
theorem d_X11_law_23 : decode (zmc m_X11_law) 23 = .ok (.bipush (-100), 2) := by decide +kernel
theorem d_X11_law_25 : decode (zmc m_X11_law) 25 = .ok (.iload_n 1, 1) := by decide +kernel
theorem d_X11_law_26 : decode (zmc m_X11_law) 26 = .ok (.isub, 1) := by decide +kernel
theorem d_X11_law_27 : decode (zmc m_X11_law) 27 = .ok (.ireturn, 1) := by decide +kernel
theorem d_X11_law_28 : decode (zmc m_X11_law) 28 = .ok (.aload_n 0, 1) := by decide +kernel
theorem d_X11_law_29 : decode (zmc m_X11_law) 29 = .ok (.getfield 88, 3) := by decide +kernel
theorem d_X11_law_32 : decode (zmc m_X11_law) 32 = .ok (.astore_n 2, 1) := by decide +kernel
theorem d_X11_law_33 : decode (zmc m_X11_law) 33 = .ok (.aload_n 0, 1) := by decide +kernel
theorem d_X11_law_34 : decode (zmc m_X11_law) 34 = .ok (.aload_n 0, 1) := by decide +kernel
theorem d_X11_law_35 : decode (zmc m_X11_law) 35 = .ok (.getfield 84, 3) := by decide +kernel
theorem d_X11_law_38 : decode (zmc m_X11_law) 38 = .ok (.putfield 88, 3) := by decide +kernel
theorem d_X11_law_41 : decode (zmc m_X11_law) 41 = .ok (.aload_n 0, 1) := by decide +kernel
theorem d_X11_law_42 : decode (zmc m_X11_law) 42 = .ok (.aload_n 2, 1) := by decide +kernel
theorem d_X11_law_43 : decode (zmc m_X11_law) 43 = .ok (.putfield 84, 3) := by decide +kernel
theorem d_X11_law_46 : decode (zmc m_X11_law) 46 = .ok (.iconst 1, 1) := by decide +kernel
theorem d_X11_law_47 : decode (zmc m_X11_law) 47 = .ok (.ireturn, 1) := by decide +kernel
theorem d_X11_mend_0 : decode (zmc m_X11_mend) 0 = .ok (.aload_n 0, 1) := by decide +kernel
theorem d_X11_mend_1 : decode (zmc m_X11_mend) 1 = .ok (.getfield 10, 3) := by decide +kernel
theorem d_X11_mend_4 : decode (zmc m_X11_mend) 4 = .ok (.iload_n 2, 1) := by decide +kernel
theorem d_X11_mend_5 : decode (zmc m_X11_mend) 5 = .ok (.iload_n 1, 1) := by decide +kernel
theorem d_X11_mend_6 : decode (zmc m_X11_mend) 6 = .ok (.invokevirtual 117, 3) := by decide +kernel
theorem d_X11_mend_9 : decode (zmc m_X11_mend) 9 = .ok (.ifCond .eq 15, 3) := by decide +kernel
theorem d_X11_mend_12 : decode (zmc m_X11_mend) 12 = .ok (.aload_n 0, 1) := by decide +kernel
theorem d_X11_mend_13 : decode (zmc m_X11_mend) 13 = .ok (.getfield 10, 3) := by decide +kernel
theorem d_X11_mend_16 : decode (zmc m_X11_mend) 16 = .ok (.iload_n 2, 1) := by decide +kernel
theorem d_X11_mend_17 : decode (zmc m_X11_mend) 17 = .ok (.iload_n 3, 1) := by decide +kernel
theorem d_X11_mend_18 : decode (zmc m_X11_mend) 18 = .ok (.invokevirtual 121, 3) := by decide +kernel
theorem d_X11_mend_21 : decode (zmc m_X11_mend) 21 = .ok (.ifCond .ne 6, 3) := by decide +kernel
theorem d_X11_mend_24 : decode (zmc m_X11_mend) 24 = .ok (.ldc 124, 2) := by decide +kernel
theorem d_X11_mend_26 : decode (zmc m_X11_mend) 26 = .ok (.ireturn, 1) := by decide +kernel
theorem d_X11_mend_27 : decode (zmc m_X11_mend) 27 = .ok (.iload_n 2, 1) := by decide +kernel
theorem d_X11_mend_28 : decode (zmc m_X11_mend) 28 = .ok (.ifCond .ne 18, 3) := by decide +kernel
theorem d_X11_mend_31 : decode (zmc m_X11_mend) 31 = .ok (.aload_n 0, 1) := by decide +kernel
theorem d_X11_mend_32 : decode (zmc m_X11_mend) 32 = .ok (.getfield 10, 3) := by decide +kernel
theorem d_X11_mend_35 : decode (zmc m_X11_mend) 35 = .ok (.iload_n 3, 1) := by decide +kernel
theorem d_X11_mend_36 : decode (zmc m_X11_mend) 36 = .ok (.iload_n 1, 1) := by decide +kernel
theorem d_X11_mend_37 : decode (zmc m_X11_mend) 37 = .ok (.invokevirtual 125, 3) := by decide +kernel
theorem d_X11_mend_40 : decode (zmc m_X11_mend) 40 = .ok (.ifCond .eq 6, 3) := by decide +kernel
theorem d_X11_mend_43 : decode (zmc m_X11_mend) 43 = .ok (.ldc 124, 2) := by decide +kernel
theorem d_X11_mend_45 : decode (zmc m_X11_mend) 45 = .ok (.ireturn, 1) := by decide +kernel
theorem d_X11_mend_46 : decode (zmc m_X11_mend) 46 = .ok (.aload_n 0, 1) := by decide +kernel
theorem d_X11_mend_47 : decode (zmc m_X11_mend) 47 = .ok (.getfield 10, 3) := by decide +kernel
theorem d_X11_mend_50 : decode (zmc m_X11_mend) 50 = .ok (.iload_n 2, 1) := by decide +kernel
theorem d_X11_mend_51 : decode (zmc m_X11_mend) 51 = .ok (.iload_n 1, 1) := by decide +kernel
theorem d_X11_mend_52 : decode (zmc m_X11_mend) 52 = .ok (.invokevirtual 128, 3) := by decide +kernel
theorem d_X11_mend_55 : decode (zmc m_X11_mend) 55 = .ok (.istore 4, 2) := by decide +kernel
theorem d_X11_mend_57 : decode (zmc m_X11_mend) 57 = .ok (.iload 4, 2) := by decide +kernel
theorem d_X11_mend_59 : decode (zmc m_X11_mend) 59 = .ok (.iload_n 3, 1) := by decide +kernel
theorem d_X11_mend_60 : decode (zmc m_X11_mend) 60 = .ok (.if_icmp .eq 25, 3) := by decide +kernel
theorem d_X11_mend_63 : decode (zmc m_X11_mend) 63 = .ok (.aload_n 0, 1) := by decide +kernel
theorem d_X11_mend_64 : decode (zmc m_X11_mend) 64 = .ok (.getfield 10, 3) := by decide +kernel
theorem d_X11_mend_67 : decode (zmc m_X11_mend) 67 = .ok (.iload_n 2, 1) := by decide +kernel
theorem d_X11_mend_68 : decode (zmc m_X11_mend) 68 = .ok (.iload_n 1, 1) := by decide +kernel
theorem d_X11_mend_69 : decode (zmc m_X11_mend) 69 = .ok (.iload_n 3, 1) := by decide +kernel
theorem d_X11_mend_70 : decode (zmc m_X11_mend) 70 = .ok (.invokevirtual 132, 3) := by decide +kernel
theorem d_X11_mend_73 : decode (zmc m_X11_mend) 73 = .ok (.aload_n 0, 1) := by decide +kernel
theorem d_X11_mend_74 : decode (zmc m_X11_mend) 74 = .ok (.getfield 56, 3) := by decide +kernel
theorem d_X11_mend_77 : decode (zmc m_X11_mend) 77 = .ok (.iload_n 2, 1) := by decide +kernel
theorem d_X11_mend_78 : decode (zmc m_X11_mend) 78 = .ok (.iload_n 1, 1) := by decide +kernel
theorem d_X11_mend_79 : decode (zmc m_X11_mend) 79 = .ok (.iload 4, 2) := by decide +kernel
theorem d_X11_mend_81 : decode (zmc m_X11_mend) 81 = .ok (.iload_n 3, 1) := by decide +kernel
theorem d_X11_mend_82 : decode (zmc m_X11_mend) 82 = .ok (.invokevirtual 136, 3) := by decide +kernel
theorem d_X11_mend_85 : decode (zmc m_X11_mend) 85 = .ok (.iload 4, 2) := by decide +kernel
theorem d_X11_mend_87 : decode (zmc m_X11_mend) 87 = .ok (.ireturn, 1) := by decide +kernel
theorem d_X11_oddsNow_0 : decode (zmc m_X11_oddsNow) 0 = .ok (.aload_n 0, 1) := by decide +kernel
theorem d_X11_oddsNow_1 : decode (zmc m_X11_oddsNow) 1 = .ok (.getfield 84, 3) := by decide +kernel
theorem d_X11_oddsNow_4 : decode (zmc m_X11_oddsNow) 4 = .ok (.aload_n 0, 1) := by decide +kernel
theorem d_X11_oddsNow_5 : decode (zmc m_X11_oddsNow) 5 = .ok (.getfield 10, 3) := by decide +kernel
theorem d_X11_oddsNow_8 : decode (zmc m_X11_oddsNow) 8 = .ok (.iload_n 1, 1) := by decide +kernel
theorem d_X11_oddsNow_9 : decode (zmc m_X11_oddsNow) 9 = .ok (.iload_n 2, 1) := by decide +kernel
theorem d_X11_oddsNow_10 : decode (zmc m_X11_oddsNow) 10 = .ok (.aload_n 0, 1) := by decide +kernel
theorem d_X11_oddsNow_11 : decode (zmc m_X11_oddsNow) 11 = .ok (.getfield 10, 3) := by decide +kernel
theorem d_X11_oddsNow_14 : decode (zmc m_X11_oddsNow) 14 = .ok (.bipush 9, 2) := by decide +kernel
theorem d_X11_oddsNow_16 : decode (zmc m_X11_oddsNow) 16 = .ok (.iconst 0, 1) := by decide +kernel
theorem d_X11_oddsNow_17 : decode (zmc m_X11_oddsNow) 17 = .ok (.invokevirtual 128, 3) := by decide +kernel
theorem d_X11_oddsNow_20 : decode (zmc m_X11_oddsNow) 20 = .ok (.invokevirtual 386, 3) := by decide +kernel
theorem d_X11_oddsNow_23 : decode (zmc m_X11_oddsNow) 23 = .ok (.ireturn, 1) := by decide +kernel
theorem d_X11_pocket_0 : decode (zmc m_X11_pocket) 0 = .ok (.aload_n 0, 1) := by decide +kernel
theorem d_X11_pocket_1 : decode (zmc m_X11_pocket) 1 = .ok (.getfield 10, 3) := by decide +kernel
theorem d_X11_pocket_4 : decode (zmc m_X11_pocket) 4 = .ok (.iconst 0, 1) := by decide +kernel
theorem d_X11_pocket_5 : decode (zmc m_X11_pocket) 5 = .ok (.iload_n 1, 1) := by decide +kernel
theorem d_X11_pocket_6 : decode (zmc m_X11_pocket) 6 = .ok (.invokevirtual 117, 3) := by decide +kernel
theorem d_X11_pocket_9 : decode (zmc m_X11_pocket) 9 = .ok (.ifCond .ne 5, 3) := by decide +kernel
theorem d_X11_pocket_12 : decode (zmc m_X11_pocket) 12 = .ok (.iconst (-1), 1) := by decide +kernel
theorem d_X11_pocket_13 : decode (zmc m_X11_pocket) 13 = .ok (.ireturn, 1) := by decide +kernel
theorem d_X11_pocket_14 : decode (zmc m_X11_pocket) 14 = .ok (.aload_n 0, 1) := by decide +kernel
theorem d_X11_pocket_15 : decode (zmc m_X11_pocket) 15 = .ok (.getfield 10, 3) := by decide +kernel
theorem d_X11_pocket_18 : decode (zmc m_X11_pocket) 18 = .ok (.iconst 5, 1) := by decide +kernel
theorem d_X11_pocket_19 : decode (zmc m_X11_pocket) 19 = .ok (.iload_n 1, 1) := by decide +kernel
theorem d_X11_pocket_20 : decode (zmc m_X11_pocket) 20 = .ok (.invokevirtual 128, 3) := by decide +kernel
theorem d_X11_pocket_23 : decode (zmc m_X11_pocket) 23 = .ok (.ifCond .eq 6, 3) := by decide +kernel
theorem d_X11_pocket_26 : decode (zmc m_X11_pocket) 26 = .ok (.bipush (-5), 2) := by decide +kernel
theorem d_X11_pocket_28 : decode (zmc m_X11_pocket) 28 = .ok (.ireturn, 1) := by decide +kernel
theorem d_X11_pocket_29 : decode (zmc m_X11_pocket) 29 = .ok (.aload_n 0, 1) := by decide +kernel
theorem d_X11_pocket_30 : decode (zmc m_X11_pocket) 30 = .ok (.getfield 10, 3) := by decide +kernel
theorem d_X11_pocket_33 : decode (zmc m_X11_pocket) 33 = .ok (.iconst 4, 1) := by decide +kernel
theorem d_X11_pocket_34 : decode (zmc m_X11_pocket) 34 = .ok (.iload_n 1, 1) := by decide +kernel
theorem d_X11_pocket_35 : decode (zmc m_X11_pocket) 35 = .ok (.invokevirtual 128, 3) := by decide +kernel
theorem d_X11_pocket_38 : decode (zmc m_X11_pocket) 38 = .ok (.istore_n 2, 1) := by decide +kernel
theorem d_X11_pocket_39 : decode (zmc m_X11_pocket) 39 = .ok (.aload_n 0, 1) := by decide +kernel
theorem d_X11_pocket_40 : decode (zmc m_X11_pocket) 40 = .ok (.getfield 10, 3) := by decide +kernel
theorem d_X11_pocket_43 : decode (zmc m_X11_pocket) 43 = .ok (.iconst 5, 1) := by decide +kernel
theorem d_X11_pocket_44 : decode (zmc m_X11_pocket) 44 = .ok (.iload_n 1, 1) := by decide +kernel
theorem d_X11_pocket_45 : decode (zmc m_X11_pocket) 45 = .ok (.iconst 1, 1) := by decide +kernel
theorem d_X11_pocket_46 : decode (zmc m_X11_pocket) 46 = .ok (.invokevirtual 132, 3) := by decide +kernel
theorem d_X11_pocket_49 : decode (zmc m_X11_pocket) 49 = .ok (.aload_n 0, 1) := by decide +kernel
theorem d_X11_pocket_50 : decode (zmc m_X11_pocket) 50 = .ok (.getfield 10, 3) := by decide +kernel
theorem d_X11_pocket_53 : decode (zmc m_X11_pocket) 53 = .ok (.iconst 4, 1) := by decide +kernel
theorem d_X11_pocket_54 : decode (zmc m_X11_pocket) 54 = .ok (.iload_n 1, 1) := by decide +kernel
theorem d_X11_pocket_55 : decode (zmc m_X11_pocket) 55 = .ok (.iconst 0, 1) := by decide +kernel
theorem d_X11_pocket_56 : decode (zmc m_X11_pocket) 56 = .ok (.invokevirtual 132, 3) := by decide +kernel
theorem d_X11_pocket_59 : decode (zmc m_X11_pocket) 59 = .ok (.aload_n 0, 1) := by decide +kernel
theorem d_X11_pocket_60 : decode (zmc m_X11_pocket) 60 = .ok (.getfield 10, 3) := by decide +kernel
theorem d_X11_pocket_63 : decode (zmc m_X11_pocket) 63 = .ok (.getfield 284, 3) := by decide +kernel
theorem d_X11_pocket_66 : decode (zmc m_X11_pocket) 66 = .ok (.iconst 3, 1) := by decide +kernel
theorem d_X11_pocket_67 : decode (zmc m_X11_pocket) 67 = .ok (.dup2, 1) := by decide +kernel
theorem d_X11_pocket_68 : decode (zmc m_X11_pocket) 68 = .ok (.iaload, 1) := by decide +kernel
theorem d_X11_pocket_69 : decode (zmc m_X11_pocket) 69 = .ok (.iconst 1, 1) := by decide +kernel
theorem d_X11_pocket_70 : decode (zmc m_X11_pocket) 70 = .ok (.iadd, 1) := by decide +kernel
theorem d_X11_pocket_71 : decode (zmc m_X11_pocket) 71 = .ok (.iastore, 1) := by decide +kernel
theorem d_X11_pocket_72 : decode (zmc m_X11_pocket) 72 = .ok (.iload_n 2, 1) := by decide +kernel
theorem d_X11_pocket_73 : decode (zmc m_X11_pocket) 73 = .ok (.ireturn, 1) := by decide +kernel
theorem d_X11_ship_0 : decode (zmc m_X11_ship) 0 = .ok (.aload_n 0, 1) := by decide +kernel
theorem d_X11_ship_1 : decode (zmc m_X11_ship) 1 = .ok (.getfield 10, 3) := by decide +kernel
theorem d_X11_ship_4 : decode (zmc m_X11_ship) 4 = .ok (.iload_n 1, 1) := by decide +kernel
theorem d_X11_ship_5 : decode (zmc m_X11_ship) 5 = .ok (.invokevirtual 114, 3) := by decide +kernel
theorem d_X11_ship_8 : decode (zmc m_X11_ship) 8 = .ok (.ireturn, 1) := by decide +kernel
theorem d_X11_walk_0 : decode (zmc m_X11_walk) 0 = .ok (.iload_n 1, 1) := by decide +kernel
theorem d_X11_walk_1 : decode (zmc m_X11_walk) 1 = .ok (.ifCond .lt 28, 3) := by decide +kernel
theorem d_X11_walk_4 : decode (zmc m_X11_walk) 4 = .ok (.iload_n 1, 1) := by decide +kernel
theorem d_X11_walk_5 : decode (zmc m_X11_walk) 5 = .ok (.bipush 24, 2) := by decide +kernel
theorem d_X11_walk_7 : decode (zmc m_X11_walk) 7 = .ok (.if_icmp .ge 22, 3) := by decide +kernel
theorem d_X11_walk_10 : decode (zmc m_X11_walk) 10 = .ok (.iload_n 2, 1) := by decide +kernel
theorem d_X11_walk_11 : decode (zmc m_X11_walk) 11 = .ok (.ifCond .lt 18, 3) := by decide +kernel
theorem d_X11_walk_14 : decode (zmc m_X11_walk) 14 = .ok (.iload_n 2, 1) := by decide +kernel
theorem d_X11_walk_15 : decode (zmc m_X11_walk) 15 = .ok (.bipush 40, 2) := by decide +kernel
theorem d_X11_walk_17 : decode (zmc m_X11_walk) 17 = .ok (.if_icmp .gt 12, 3) := by decide +kernel
theorem d_X11_walk_20 : decode (zmc m_X11_walk) 20 = .ok (.iload_n 3, 1) := by decide +kernel
theorem d_X11_walk_21 : decode (zmc m_X11_walk) 21 = .ok (.ifCond .lt 8, 3) := by decide +kernel
theorem d_X11_walk_24 : decode (zmc m_X11_walk) 24 = .ok (.iload_n 3, 1) := by decide +kernel
theorem d_X11_walk_25 : decode (zmc m_X11_walk) 25 = .ok (.iconst 1, 1) := by decide +kernel
theorem d_X11_walk_26 : decode (zmc m_X11_walk) 26 = .ok (.if_icmp .le 5, 3) := by decide +kernel
theorem d_X11_walk_29 : decode (zmc m_X11_walk) 29 = .ok (.iconst (-1), 1) := by decide +kernel
theorem d_X11_walk_30 : decode (zmc m_X11_walk) 30 = .ok (.ireturn, 1) := by decide +kernel
theorem d_X11_walk_31 : decode (zmc m_X11_walk) 31 = .ok (.aload_n 0, 1) := by decide +kernel
theorem d_X11_walk_32 : decode (zmc m_X11_walk) 32 = .ok (.getfield 35, 3) := by decide +kernel
theorem d_X11_walk_35 : decode (zmc m_X11_walk) 35 = .ok (.iload_n 1, 1) := by decide +kernel
theorem d_X11_walk_36 : decode (zmc m_X11_walk) 36 = .ok (.iload_n 2, 1) := by decide +kernel
theorem d_X11_walk_37 : decode (zmc m_X11_walk) 37 = .ok (.invokevirtual 218, 3) := by decide +kernel
theorem d_X11_walk_40 : decode (zmc m_X11_walk) 40 = .ok (.iload_n 3, 1) := by decide +kernel
theorem d_X11_walk_41 : decode (zmc m_X11_walk) 41 = .ok (.ifCond .ne 13, 3) := by decide +kernel
theorem d_X11_walk_44 : decode (zmc m_X11_walk) 44 = .ok (.aload_n 0, 1) := by decide +kernel
theorem d_X11_walk_45 : decode (zmc m_X11_walk) 45 = .ok (.getfield 35, 3) := by decide +kernel
theorem d_X11_walk_48 : decode (zmc m_X11_walk) 48 = .ok (.getfield 222, 3) := by decide +kernel
theorem d_X11_walk_51 : decode (zmc m_X11_walk) 51 = .ok (.goto 10, 3) := by decide +kernel
theorem d_X11_walk_54 : decode (zmc m_X11_walk) 54 = .ok (.aload_n 0, 1) := by decide +kernel
theorem d_X11_walk_55 : decode (zmc m_X11_walk) 55 = .ok (.getfield 35, 3) := by decide +kernel
theorem d_X11_walk_58 : decode (zmc m_X11_walk) 58 = .ok (.getfield 225, 3) := by decide +kernel
theorem d_X11_walk_61 : decode (zmc m_X11_walk) 61 = .ok (.ireturn, 1) := by decide +kernel
/-! WHAT A WATCH ANSWERS, MORE -/
section S31
variable {g : zG} {l : Launch} {d : Nat} {I : Nat → Nat → Int32} {L : Nat → Nat → Int64} {fs : Nat × Nat × Option Nat} {ns nt nh h h2 : Nat} {o : Option Nat}
theorem sp_X11_ship (hd : 5 ≤ d) (hK : zSky I ns nt nh) {f : Int32} : zSp g l d 100 m_X11_ship [.ref 0, .int f] (zU I L fs) (zX (fun x w => (¬ zMay 8 f ∧ x = -1 ∧ w = zU I L fs) ∨ (zMay 8 f ∧ 6 ≤ nh ∧ x = -3 ∧ w = zU I L fs) ∨ (zMay 8 f ∧ nh < 6 ∧ x = nI nh ∧ w = zU (zShpI I nh f) L fs))) := by
  refine zSp_of (lv := [(0, .ref 0), (1, .int f)]) k_X11_ship rfl (Nat.le_of_ble_eq_true rfl) ?_
  refine zAloadN d_X11_ship_0 rfl rfl (q := 1) rfl ?_
  refine zGetR d_X11_ship_1 ff_X11_10 sh_0 (by decide) r_0_0 (q := 4) rfl ?_
  refine zIloadN d_X11_ship_4 rfl rfl (q := 5) rfl ?_
  refine zCallVN d_X11_ship_5 ml_X11_114 k_X9_addShip ki_X9_addShip ks_X9_addShip (sp_X9_addShip (d := d - 1) (by omega) hK) rfl rfl sh_1 (by decide) rfl (by decide) (Nat.le_of_ble_eq_true rfl) (by decide) (by omega) zns100 (q := 8) rfl (fun x w' hn hw' => ?_)
  refine zIret d_X11_ship_8 rfl rfl hn ?_
  exact ⟨_, rfl, hw'⟩
theorem zR_swap : zR (h2, h, o) = zup (zup (zR (h, h2, o)) 0 (zup (zR (h, h2, o) 0) 11 (some h))) 0 (zup ((zup (zR (h, h2, o)) 0 (zup (zR (h, h2, o) 0) 11 (some h))) 0) 10 (some h2)) := by
  funext i k
  by_cases e : i = 0
  · subst e
    rw [zup_eq, zup_eq]
    by_cases e1 : k = 10
    · subst e1; rw [zup_eq]; rfl
    · rw [zup_ne e1]
      by_cases e2 : k = 11
      · subst e2; rw [zup_eq]; rfl
      · rw [zup_ne e2]
        show (if k = 10 then some h2 else if k = 11 then some h else zR0 0 k) = (if k = 10 then some h else if k = 11 then some h2 else zR0 0 k)
        rw [if_neg e1, if_neg e1, if_neg e2, if_neg e2]
  · rw [zup_ne e, zup_ne e]
    unfold zR
    rw [if_neg e, if_neg e]
theorem sp_X11_mend (hd : 4 ≤ d) (hK : zSky I ns nt nh) {dn : Nat} (hdn : I 31 4 = nI dn) (hd40 : dn ≤ 40) {k what v : Int32} : zSp g l d 100 m_X11_mend [.ref 0, .int k, .int what, .int v] (zU I L fs) (zX (fun x w =>
    (¬ ((0 ≤ k ∧ k < nI (zHold ns nt nh what)) ∧ zMay what v ∧ ¬ (what = 0 ∧ ¬ zfind (I 3) v ns 0 = -2 ∧ ¬ zfind (I 3) v ns 0 = k)) ∧ x = -2000000000 ∧ w = zU I L fs) ∨
    (((0 ≤ k ∧ k < nI (zHold ns nt nh what)) ∧ zMay what v ∧ ¬ (what = 0 ∧ ¬ zfind (I 3) v ns 0 = -2 ∧ ¬ zfind (I 3) v ns 0 = k)) ∧ x = zGet I ns nt nh what k ∧ (zGet I ns nt nh what k = v ∧ w = zU I L fs ∨ ¬ zGet I ns nt nh what k = v ∧ w = zU (zChg (zSetI I ns nt nh what k v) dn what k (zGet I ns nt nh what k) v) L fs)))) := by
  refine zSp_of (lv := [(0, .ref 0), (1, .int k), (2, .int what), (3, .int v)]) k_X11_mend rfl (Nat.le_of_ble_eq_true rfl) ?_
  refine zAloadN d_X11_mend_0 rfl rfl (q := 1) rfl ?_
  refine zGetR d_X11_mend_1 ff_X11_10 sh_0 (by decide) r_0_0 (q := 4) rfl ?_
  refine zIloadN d_X11_mend_4 rfl rfl (q := 5) rfl ?_
  refine zIloadN d_X11_mend_5 rfl rfl (q := 6) rfl ?_
  refine zCallVP d_X11_mend_6 ml_X11_117 k_X9_has ki_X9_has ks_X9_has (sp_X9_has (d := d - 1) (by omega) hK) rfl rfl sh_1 (by decide) rfl (by decide) (Nat.le_of_ble_eq_true rfl) (by decide) (by omega) zns100 (q := 9) rfl ?_
  refine zIf_eq d_X11_mend_9 (tgt := 24) (q := 12) (by decide) rfl (fun h9 => ?_) (fun h9 => ?_)
  · have c1 := bi_0.mp h9
    have hno : ¬ ((0 ≤ k ∧ k < nI (zHold ns nt nh what)) ∧ zMay what v ∧ ¬ (what = 0 ∧ ¬ zfind (I 3) v ns 0 = -2 ∧ ¬ zfind (I 3) v ns 0 = k)) := fun q => c1 q.1
    refine zLdc d_X11_mend_24 co_X11_124 (q := 26) rfl ?_
    refine zIret d_X11_mend_26 rfl rfl rfl ?_
    exact ⟨_, rfl, Or.inl ⟨hno, rfl, rfl⟩⟩
  · have c1 := bi_n0.mp h9
    refine zAloadN d_X11_mend_12 rfl rfl (q := 13) rfl ?_
    refine zGetR d_X11_mend_13 ff_X11_10 sh_0 (by decide) r_0_0 (q := 16) rfl ?_
    refine zIloadN d_X11_mend_16 rfl rfl (q := 17) rfl ?_
    refine zIloadN d_X11_mend_17 rfl rfl (q := 18) rfl ?_
    refine zCallVP d_X11_mend_18 ml_X11_121 k_X9_mayBe ki_X9_mayBe ks_X9_mayBe (sp_X9_mayBe (d := d - 1) (by omega) ) rfl rfl sh_1 (by decide) rfl (by decide) (Nat.le_of_ble_eq_true rfl) (by decide) (by omega) zns100 (q := 21) rfl ?_
    refine zIf_ne d_X11_mend_21 (tgt := 27) (q := 24) (by decide) rfl (fun h21 => ?_) (fun h21 => ?_)
    · have c2 := bi_n0.mp h21
      refine zIloadN d_X11_mend_27 rfl rfl (q := 28) rfl ?_
      refine zIf_ne d_X11_mend_28 (tgt := 46) (q := 31) (by decide) rfl (fun h28 => ?_) (fun h28 => ?_)
      · have hyes : (0 ≤ k ∧ k < nI (zHold ns nt nh what)) ∧ zMay what v ∧ ¬ (what = 0 ∧ ¬ zfind (I 3) v ns 0 = -2 ∧ ¬ zfind (I 3) v ns 0 = k) := And.intro c1 (And.intro c2 (fun q => h28 q.1))
        refine zAloadN d_X11_mend_46 rfl rfl (q := 47) rfl ?_
        refine zGetR d_X11_mend_47 ff_X11_10 sh_0 (by decide) r_0_0 (q := 50) rfl ?_
        refine zIloadN d_X11_mend_50 rfl rfl (q := 51) rfl ?_
        refine zIloadN d_X11_mend_51 rfl rfl (q := 52) rfl ?_
        refine zCallVP d_X11_mend_52 ml_X11_128 k_X9_get ki_X9_get ks_X9_get (sp_X9_get (d := d - 1) (by omega) hK) rfl rfl sh_1 (by decide) rfl (by decide) (Nat.le_of_ble_eq_true rfl) (by decide) (by omega) zns100 (q := 55) rfl ?_
        refine zIstore d_X11_mend_55 (by decide) rfl (q := 57) rfl ?_
        refine zIload d_X11_mend_57 rfl (q := 59) rfl ?_
        refine zIloadN d_X11_mend_59 rfl rfl (q := 60) rfl ?_
        refine zIcmp_eq d_X11_mend_60 (tgt := 85) (q := 63) (by decide) rfl (fun h60 => ?_) (fun h60 => ?_)
        · have hv : zGet I ns nt nh what k = v := h60
          refine zIload d_X11_mend_85 rfl (q := 87) rfl ?_
          refine zIret d_X11_mend_87 rfl rfl rfl ?_
          exact ⟨_, rfl, Or.inr ⟨hyes, rfl, by first | exact Or.inl ⟨hv, rfl⟩ | exact Or.inr ⟨hv, rfl⟩⟩⟩
        · have hv : ¬ zGet I ns nt nh what k = v := h60
          refine zAloadN d_X11_mend_63 rfl rfl (q := 64) rfl ?_
          refine zGetR d_X11_mend_64 ff_X11_10 sh_0 (by decide) r_0_0 (q := 67) rfl ?_
          refine zIloadN d_X11_mend_67 rfl rfl (q := 68) rfl ?_
          refine zIloadN d_X11_mend_68 rfl rfl (q := 69) rfl ?_
          refine zIloadN d_X11_mend_69 rfl rfl (q := 70) rfl ?_
          refine zCallVV d_X11_mend_70 ml_X11_132 k_X9_set ki_X9_set ks_X9_set (sp_X9_set (d := d - 1) (by omega) hK) rfl rfl sh_1 (by decide) rfl (by decide) (Nat.le_of_ble_eq_true rfl) (by decide) (by omega) zns100 (q := 73) rfl (fun w' hw' => ?_)
          subst hw'
          refine zAloadN d_X11_mend_73 rfl rfl (q := 74) rfl ?_
          refine zGetR d_X11_mend_74 ff_X11_56 sh_0 (by decide) r_0_6 (q := 77) rfl ?_
          refine zIloadN d_X11_mend_77 rfl rfl (q := 78) rfl ?_
          refine zIloadN d_X11_mend_78 rfl rfl (q := 79) rfl ?_
          refine zIload d_X11_mend_79 rfl (q := 81) rfl ?_
          refine zIloadN d_X11_mend_81 rfl rfl (q := 82) rfl ?_
          refine zCallVV d_X11_mend_82 ml_X11_136 k_X1_add ki_X1_add ks_X1_add (sp_X1_add (d := d - 1) (by omega) (I := zSetI I ns nt nh what k v) (by rw [zSetI_ne (Or.inr (by decide))]; exact hdn) hd40) rfl rfl sh_31 (by decide) rfl (by decide) (Nat.le_of_ble_eq_true rfl) (by decide) (by omega) zns100 (q := 85) rfl (fun w' hw' => ?_)
          subst hw'
          refine zIload d_X11_mend_85 rfl (q := 87) rfl ?_
          refine zIret d_X11_mend_87 rfl rfl rfl ?_
          exact ⟨_, rfl, Or.inr ⟨hyes, rfl, by first | exact Or.inl ⟨hv, rfl⟩ | exact Or.inr ⟨hv, rfl⟩⟩⟩
      · refine zAloadN d_X11_mend_31 rfl rfl (q := 32) rfl ?_
        refine zGetR d_X11_mend_32 ff_X11_10 sh_0 (by decide) r_0_0 (q := 35) rfl ?_
        refine zIloadN d_X11_mend_35 rfl rfl (q := 36) rfl ?_
        refine zIloadN d_X11_mend_36 rfl rfl (q := 37) rfl ?_
        refine zCallVP d_X11_mend_37 ml_X11_125 k_X9_isTakenByOther ki_X9_isTakenByOther ks_X9_isTakenByOther (sp_X9_isTakenByOther (d := d - 1) (by omega) hK) rfl rfl sh_1 (by decide) rfl (by decide) (Nat.le_of_ble_eq_true rfl) (by decide) (by omega) zns100 (q := 40) rfl ?_
        refine zIf_eq d_X11_mend_40 (tgt := 46) (q := 43) (by decide) rfl (fun h40 => ?_) (fun h40 => ?_)
        · have hyes : (0 ≤ k ∧ k < nI (zHold ns nt nh what)) ∧ zMay what v ∧ ¬ (what = 0 ∧ ¬ zfind (I 3) v ns 0 = -2 ∧ ¬ zfind (I 3) v ns 0 = k) := And.intro c1 (And.intro c2 (fun q => bi_0.mp h40 q.2))
          refine zAloadN d_X11_mend_46 rfl rfl (q := 47) rfl ?_
          refine zGetR d_X11_mend_47 ff_X11_10 sh_0 (by decide) r_0_0 (q := 50) rfl ?_
          refine zIloadN d_X11_mend_50 rfl rfl (q := 51) rfl ?_
          refine zIloadN d_X11_mend_51 rfl rfl (q := 52) rfl ?_
          refine zCallVP d_X11_mend_52 ml_X11_128 k_X9_get ki_X9_get ks_X9_get (sp_X9_get (d := d - 1) (by omega) hK) rfl rfl sh_1 (by decide) rfl (by decide) (Nat.le_of_ble_eq_true rfl) (by decide) (by omega) zns100 (q := 55) rfl ?_
          refine zIstore d_X11_mend_55 (by decide) rfl (q := 57) rfl ?_
          refine zIload d_X11_mend_57 rfl (q := 59) rfl ?_
          refine zIloadN d_X11_mend_59 rfl rfl (q := 60) rfl ?_
          refine zIcmp_eq d_X11_mend_60 (tgt := 85) (q := 63) (by decide) rfl (fun h60 => ?_) (fun h60 => ?_)
          · have hv : zGet I ns nt nh what k = v := h60
            refine zIload d_X11_mend_85 rfl (q := 87) rfl ?_
            refine zIret d_X11_mend_87 rfl rfl rfl ?_
            exact ⟨_, rfl, Or.inr ⟨hyes, rfl, by first | exact Or.inl ⟨hv, rfl⟩ | exact Or.inr ⟨hv, rfl⟩⟩⟩
          · have hv : ¬ zGet I ns nt nh what k = v := h60
            refine zAloadN d_X11_mend_63 rfl rfl (q := 64) rfl ?_
            refine zGetR d_X11_mend_64 ff_X11_10 sh_0 (by decide) r_0_0 (q := 67) rfl ?_
            refine zIloadN d_X11_mend_67 rfl rfl (q := 68) rfl ?_
            refine zIloadN d_X11_mend_68 rfl rfl (q := 69) rfl ?_
            refine zIloadN d_X11_mend_69 rfl rfl (q := 70) rfl ?_
            refine zCallVV d_X11_mend_70 ml_X11_132 k_X9_set ki_X9_set ks_X9_set (sp_X9_set (d := d - 1) (by omega) hK) rfl rfl sh_1 (by decide) rfl (by decide) (Nat.le_of_ble_eq_true rfl) (by decide) (by omega) zns100 (q := 73) rfl (fun w' hw' => ?_)
            subst hw'
            refine zAloadN d_X11_mend_73 rfl rfl (q := 74) rfl ?_
            refine zGetR d_X11_mend_74 ff_X11_56 sh_0 (by decide) r_0_6 (q := 77) rfl ?_
            refine zIloadN d_X11_mend_77 rfl rfl (q := 78) rfl ?_
            refine zIloadN d_X11_mend_78 rfl rfl (q := 79) rfl ?_
            refine zIload d_X11_mend_79 rfl (q := 81) rfl ?_
            refine zIloadN d_X11_mend_81 rfl rfl (q := 82) rfl ?_
            refine zCallVV d_X11_mend_82 ml_X11_136 k_X1_add ki_X1_add ks_X1_add (sp_X1_add (d := d - 1) (by omega) (I := zSetI I ns nt nh what k v) (by rw [zSetI_ne (Or.inr (by decide))]; exact hdn) hd40) rfl rfl sh_31 (by decide) rfl (by decide) (Nat.le_of_ble_eq_true rfl) (by decide) (by omega) zns100 (q := 85) rfl (fun w' hw' => ?_)
            subst hw'
            refine zIload d_X11_mend_85 rfl (q := 87) rfl ?_
            refine zIret d_X11_mend_87 rfl rfl rfl ?_
            exact ⟨_, rfl, Or.inr ⟨hyes, rfl, by first | exact Or.inl ⟨hv, rfl⟩ | exact Or.inr ⟨hv, rfl⟩⟩⟩
        · have hno : ¬ ((0 ≤ k ∧ k < nI (zHold ns nt nh what)) ∧ zMay what v ∧ ¬ (what = 0 ∧ ¬ zfind (I 3) v ns 0 = -2 ∧ ¬ zfind (I 3) v ns 0 = k)) := fun q => q.2.2 (And.intro h28 (bi_n0.mp h40))
          refine zLdc d_X11_mend_43 co_X11_124 (q := 45) rfl ?_
          refine zIret d_X11_mend_45 rfl rfl rfl ?_
          exact ⟨_, rfl, Or.inl ⟨hno, rfl, rfl⟩⟩
    · have c2 := bi_0.mp h21
      have hno : ¬ ((0 ≤ k ∧ k < nI (zHold ns nt nh what)) ∧ zMay what v ∧ ¬ (what = 0 ∧ ¬ zfind (I 3) v ns 0 = -2 ∧ ¬ zfind (I 3) v ns 0 = k)) := fun q => c2 q.2.1
      refine zLdc d_X11_mend_24 co_X11_124 (q := 26) rfl ?_
      refine zIret d_X11_mend_26 rfl rfl rfl ?_
      exact ⟨_, rfl, Or.inl ⟨hno, rfl, rfl⟩⟩
theorem sp_X11_pocket (hd : 4 ≤ d) (hK : zSky I ns nt nh) {s : Int32} : zSp g l d 100 m_X11_pocket [.ref 0, .int s] (zU I L fs) (zX (fun x w =>
    (¬ (0 ≤ s ∧ s < nI ns) ∧ x = -1 ∧ w = zU I L fs) ∨ ((0 ≤ s ∧ s < nI ns) ∧ ¬ I 8 s.toNatClampNeg = 0 ∧ x = -5 ∧ w = zU I L fs) ∨
    ((0 ≤ s ∧ s < nI ns) ∧ I 8 s.toNatClampNeg = 0 ∧ x = I 7 s.toNatClampNeg ∧ w = zU (zup (zup (zup I 8 (zup (I 8) s.toNatClampNeg 1)) 7 (zup (I 7) s.toNatClampNeg 0)) 15 (zup (I 15) 3 (I 15 3 + 1))) L fs))) := by
  have hns := hK.2.1
  have e0 : zHold ns nt nh 0 = ns := rfl
  rcases Decidable.em (0 ≤ s ∧ s < nI ns) with hc | hc
  · obtain ⟨k, hk, rfl⟩ := zn1 (x := s) (n := ns) (by omega) hc.1 hc.2
    rw [show (nI k).toNatClampNeg = k from zcl_n (by omega)]
    refine zSp_of (lv := [(0, .ref 0), (1, .int (nI k))]) k_X11_pocket rfl (Nat.le_of_ble_eq_true rfl) ?_
    refine zAloadN d_X11_pocket_0 rfl rfl (q := 1) rfl ?_
    refine zGetR d_X11_pocket_1 ff_X11_10 sh_0 (by decide) r_0_0 (q := 4) rfl ?_
    refine zIconst d_X11_pocket_4 (v := 0) ic_0 (q := 5) rfl ?_
    refine zIloadN d_X11_pocket_5 rfl rfl (q := 6) rfl ?_
    refine zCallVP d_X11_pocket_6 ml_X11_117 k_X9_has ki_X9_has ks_X9_has (sp_X9_has (d := d - 1) (by omega) hK) rfl rfl sh_1 (by decide) rfl (by decide) (Nat.le_of_ble_eq_true rfl) (by decide) (by omega) zns100 (q := 9) rfl ?_
    refine zIf_ne d_X11_pocket_9 (tgt := 14) (q := 12) (by decide) rfl (fun h9 => ?_) (fun h => absurd h (fun h => bi_0.mp h hc))
    refine zAloadN d_X11_pocket_14 rfl rfl (q := 15) rfl ?_
    refine zGetR d_X11_pocket_15 ff_X11_10 sh_0 (by decide) r_0_0 (q := 18) rfl ?_
    refine zIconst d_X11_pocket_18 (v := 5) ic_5 (q := 19) rfl ?_
    refine zIloadN d_X11_pocket_19 rfl rfl (q := 20) rfl ?_
    refine zCallVP d_X11_pocket_20 ml_X11_128 k_X9_get ki_X9_get ks_X9_get (sp_get5 (d := d - 1) (by omega) hK hk) rfl rfl sh_1 (by decide) rfl (by decide) (Nat.le_of_ble_eq_true rfl) (by decide) (by omega) zns100 (q := 23) rfl ?_
    refine zIf_eq d_X11_pocket_23 (tgt := 29) (q := 26) (by decide) rfl (fun h23 => ?_) (fun h23 => ?_)
    · refine zAloadN d_X11_pocket_29 rfl rfl (q := 30) rfl ?_
      refine zGetR d_X11_pocket_30 ff_X11_10 sh_0 (by decide) r_0_0 (q := 33) rfl ?_
      refine zIconst d_X11_pocket_33 (v := 4) ic_4 (q := 34) rfl ?_
      refine zIloadN d_X11_pocket_34 rfl rfl (q := 35) rfl ?_
      refine zCallVP d_X11_pocket_35 ml_X11_128 k_X9_get ki_X9_get ks_X9_get (sp_get4 (d := d - 1) (by omega) hK hk) rfl rfl sh_1 (by decide) rfl (by decide) (Nat.le_of_ble_eq_true rfl) (by decide) (by omega) zns100 (q := 38) rfl ?_
      refine zIstoreN d_X11_pocket_38 rfl (by decide) rfl (q := 39) rfl ?_
      refine zAloadN d_X11_pocket_39 rfl rfl (q := 40) rfl ?_
      refine zGetR d_X11_pocket_40 ff_X11_10 sh_0 (by decide) r_0_0 (q := 43) rfl ?_
      refine zIconst d_X11_pocket_43 (v := 5) ic_5 (q := 44) rfl ?_
      refine zIloadN d_X11_pocket_44 rfl rfl (q := 45) rfl ?_
      refine zIconst d_X11_pocket_45 (v := 1) ic_1 (q := 46) rfl ?_
      refine zCallVV d_X11_pocket_46 ml_X11_132 k_X9_set ki_X9_set ks_X9_set (sp_set5 (d := d - 1) (by omega) hK hk) rfl rfl sh_1 (by decide) rfl (by decide) (Nat.le_of_ble_eq_true rfl) (by decide) (by omega) zns100 (q := 49) rfl (fun w' hw' => ?_)
      subst hw'
      refine zAloadN d_X11_pocket_49 rfl rfl (q := 50) rfl ?_
      refine zGetR d_X11_pocket_50 ff_X11_10 sh_0 (by decide) r_0_0 (q := 53) rfl ?_
      refine zIconst d_X11_pocket_53 (v := 4) ic_4 (q := 54) rfl ?_
      refine zIloadN d_X11_pocket_54 rfl rfl (q := 55) rfl ?_
      refine zIconst d_X11_pocket_55 (v := 0) ic_0 (q := 56) rfl ?_
      refine zCallVV d_X11_pocket_56 ml_X11_132 k_X9_set ki_X9_set ks_X9_set (sp_set4 (d := d - 1) (by omega) (zSky_up (a := 8) hK (by decide)) hk) rfl rfl sh_1 (by decide) rfl (by decide) (Nat.le_of_ble_eq_true rfl) (by decide) (by omega) zns100 (q := 59) rfl (fun w' hw' => ?_)
      subst hw'
      refine zAloadN d_X11_pocket_59 rfl rfl (q := 60) rfl ?_
      refine zGetR d_X11_pocket_60 ff_X11_10 sh_0 (by decide) r_0_0 (q := 63) rfl ?_
      refine zGetR d_X11_pocket_63 ff_X11_284 sh_1 (by decide) r_1_2 (q := 66) rfl ?_
      refine zIconst d_X11_pocket_66 (v := 3) ic_3 (q := 67) rfl ?_
      refine zDup2 d_X11_pocket_67 rfl rfl (q := 68) rfl ?_
      refine zIald d_X11_pocket_68 sh_15 (by decide) (j := 3) rfl (by decide) (q := 69) rfl ?_
      refine zIconst d_X11_pocket_69 (v := 1) ic_1 (q := 70) rfl ?_
      refine zIadd d_X11_pocket_70 (q := 71) rfl ?_
      refine zIast d_X11_pocket_71 sh_15 (by decide) (j := 3) rfl (by decide) (q := 72) rfl ?_
      refine zIloadN d_X11_pocket_72 rfl rfl (q := 73) rfl ?_
      refine zIret d_X11_pocket_73 rfl rfl rfl ?_
      exact ⟨_, rfl, Or.inr (Or.inr ⟨hc, by simpa using h23, rfl, rfl⟩)⟩
    · refine zBipush d_X11_pocket_26 (v := -5) bc_m5 (q := 28) rfl ?_
      refine zIret d_X11_pocket_28 rfl rfl rfl ?_
      exact ⟨_, rfl, Or.inr (Or.inl ⟨hc, h23, rfl, rfl⟩)⟩
  ·
    refine zSp_of (lv := [(0, .ref 0), (1, .int s)]) k_X11_pocket rfl (Nat.le_of_ble_eq_true rfl) ?_
    refine zAloadN d_X11_pocket_0 rfl rfl (q := 1) rfl ?_
    refine zGetR d_X11_pocket_1 ff_X11_10 sh_0 (by decide) r_0_0 (q := 4) rfl ?_
    refine zIconst d_X11_pocket_4 (v := 0) ic_0 (q := 5) rfl ?_
    refine zIloadN d_X11_pocket_5 rfl rfl (q := 6) rfl ?_
    refine zCallVP d_X11_pocket_6 ml_X11_117 k_X9_has ki_X9_has ks_X9_has (sp_X9_has (d := d - 1) (by omega) hK) rfl rfl sh_1 (by decide) rfl (by decide) (Nat.le_of_ble_eq_true rfl) (by decide) (by omega) zns100 (q := 9) rfl ?_
    refine zIf_ne d_X11_pocket_9 (tgt := 14) (q := 12) (by decide) rfl (fun h => absurd h (fun h => hc (bi_n0.mp h))) (fun h9 => ?_)
    refine zIconst d_X11_pocket_12 (v := -1) ic_m1 (q := 13) rfl ?_
    refine zIret d_X11_pocket_13 rfl rfl rfl ?_
    exact ⟨_, rfl, Or.inl ⟨hc, rfl, rfl⟩⟩
theorem sp_X11_law (hd : 96 ≤ d) {m : Nat} (h1 : I 29 1 = nI m) (hm : m ≤ 120) (hw : zLwf h2) (hh : 54 ≤ h2) : zSp g l d 100 m_X11_law [.ref 0] (zU I L (h, h2, o)) (zX (fun x w => ∃ J, zFr I J h2 ∧ (∀ pg, zTR (I 30) m = (m, some pg) → zLawOk J h2 (some pg)) ∧
    ((0 ≤ zFa (I 30) m ∧ x = -100 - zFa (I 30) m ∧ w = zU (zup J 29 (zup (J 29) 1 0)) L (h, h2, some h2)) ∨ (¬ 0 ≤ zFa (I 30) m ∧ x = 1 ∧ w = zU (zup J 29 (zup (J 29) 1 0)) L (h2, h, some h2))))) := by
  refine zSp_of (lv := [(0, .ref 0)]) k_X11_law rfl (Nat.le_of_ble_eq_true rfl) ?_
  refine zAloadN d_X11_law_0 rfl rfl (q := 1) rfl ?_
  refine zGetR d_X11_law_1 ff_X11_49 sh_0 (by decide) r_0_5 (q := 4) rfl ?_
  refine zAloadN d_X11_law_4 rfl rfl (q := 5) rfl ?_
  refine zGetR d_X11_law_5 ff_X11_88 sh_0 (by decide) rfl (q := 8) rfl ?_
  refine zCallVX d_X11_law_8 ml_X11_145 k_X10_faultInto ki_X10_faultInto ks_X10_faultInto (sp_X10_faultInto (d := d - 1) (by omega) h1 hm hw hh) rfl rfl sh_29 (by decide) rfl (by decide) (Nat.le_of_ble_eq_true rfl) (by decide) (by omega) zns100 (q := 11) rfl (fun x w' hw' => ?_)
  obtain ⟨J, rfl, rfl, hfr, hok⟩ := hw'
  refine zIstoreN d_X11_law_11 rfl (by decide) rfl (q := 12) rfl ?_
  refine zAloadN d_X11_law_12 rfl rfl (q := 13) rfl ?_
  refine zGetR d_X11_law_13 ff_X11_49 sh_0 (by decide) r_0_5 (q := 16) rfl ?_
  refine zCallVV d_X11_law_16 ml_X11_149 k_X10_clear ki_X10_clear ks_X10_clear (sp_X10_clear (d := d - 1) (by omega)) rfl rfl sh_29 (by decide) rfl (by decide) (Nat.le_of_ble_eq_true rfl) (by decide) (by omega) zns100 (q := 19) rfl (fun w' hw' => ?_)
  subst hw'
  refine zIloadN d_X11_law_19 rfl rfl (q := 20) rfl ?_
  refine zIf_lt d_X11_law_20 (tgt := 28) (q := 23) (by decide) rfl (fun h20 => ?_) (fun h20 => ?_)
  · refine zAloadN d_X11_law_28 rfl rfl (q := 29) rfl ?_
    refine zGetR d_X11_law_29 ff_X11_88 sh_0 (by decide) rfl (q := 32) rfl ?_
    refine zAstoreN d_X11_law_32 rfl (by decide) rfl (q := 33) rfl ?_
    refine zAloadN d_X11_law_33 rfl rfl (q := 34) rfl ?_
    refine zAloadN d_X11_law_34 rfl rfl (q := 35) rfl ?_
    refine zGetR d_X11_law_35 ff_X11_84 sh_0 (by decide) rfl (q := 38) rfl ?_
    refine zPutR (x := some h) d_X11_law_38 ff_X11_88 rfl rfl (fun _ => rfl) (fun _ => rfl) rfl rfl sh_0 (by decide) (q := 41) rfl ?_
    refine zAloadN d_X11_law_41 rfl rfl (q := 42) rfl ?_
    refine zAloadN d_X11_law_42 rfl rfl (q := 43) rfl ?_
    refine zPutR (x := some h2) d_X11_law_43 ff_X11_84 rfl rfl (fun _ => rfl) (fun _ => rfl) rfl rfl sh_0 (by decide) (q := 46) rfl ?_
    refine zCastR zR_swap ?_
    refine zIconst d_X11_law_46 (v := 1) ic_1 (q := 47) rfl ?_
    refine zIret d_X11_law_47 rfl rfl rfl ?_
    exact ⟨_, rfl, J, hfr, hok, Or.inr ⟨Int32.not_le.mpr h20, rfl, rfl⟩⟩
  · refine zBipush d_X11_law_23 (v := -100) bc_m100 (q := 25) rfl ?_
    refine zIloadN d_X11_law_25 rfl rfl (q := 26) rfl ?_
    refine zIsub d_X11_law_26 (q := 27) rfl ?_
    refine zIret d_X11_law_27 rfl rfl rfl ?_
    exact ⟨_, rfl, J, hfr, hok, Or.inl ⟨Int32.not_lt.mp h20, rfl, rfl⟩⟩
theorem sp_X11_oddsNow (hd : 6 ≤ d) (hK : zSky I ns nt nh) (hw : zLwf h) {pg : Option (List zLine)} (hlw : zLawOk I h pg) {s t : Nat} (hs : s < ns) (ht : t < nt) : zSp g l d 100 m_X11_oddsNow [.ref 0, .int (nI s), .int (nI t)] (zU I L (h, h2, o)) (zX (fun x w => x = zOdds pg (zEn I s t (I 12 0)) ∧ ∃ F G, w = zU (zup (zup I (h + 4) F) (h + 3) G) L (h, h2, o))) := by
  refine zSp_of (lv := [(0, .ref 0), (1, .int (nI s)), (2, .int (nI t))]) k_X11_oddsNow rfl (Nat.le_of_ble_eq_true rfl) ?_
  refine zAloadN d_X11_oddsNow_0 rfl rfl (q := 1) rfl ?_
  refine zGetR d_X11_oddsNow_1 ff_X11_84 sh_0 (by decide) rfl (q := 4) rfl ?_
  refine zAloadN d_X11_oddsNow_4 rfl rfl (q := 5) rfl ?_
  refine zGetR d_X11_oddsNow_5 ff_X11_10 sh_0 (by decide) r_0_0 (q := 8) rfl ?_
  refine zIloadN d_X11_oddsNow_8 rfl rfl (q := 9) rfl ?_
  refine zIloadN d_X11_oddsNow_9 rfl rfl (q := 10) rfl ?_
  refine zAloadN d_X11_oddsNow_10 rfl rfl (q := 11) rfl ?_
  refine zGetR d_X11_oddsNow_11 ff_X11_10 sh_0 (by decide) r_0_0 (q := 14) rfl ?_
  refine zBipush d_X11_oddsNow_14 (v := 9) bc_9 (q := 16) rfl ?_
  refine zIconst d_X11_oddsNow_16 (v := 0) ic_0 (q := 17) rfl ?_
  refine zCallVP d_X11_oddsNow_17 ml_X11_128 k_X9_get ki_X9_get ks_X9_get (sp_get9 (d := d - 1) (by omega) hK) rfl rfl sh_1 (by decide) rfl (by decide) (Nat.le_of_ble_eq_true rfl) (by decide) (by omega) zns100 (q := 20) rfl ?_
  refine zCallVX d_X11_oddsNow_20 ml_X11_386 k_X6_oddsOf ki_X6_oddsOf ks_X6_oddsOf (sp_X6_oddsOf (d := d - 1) (by omega) hK hw hlw hs ht) rfl rfl hw.1 (by decide) rfl (zlt4 hw) (Nat.le_of_ble_eq_true rfl) (by decide) (by omega) zns100 (q := 23) rfl (fun x w' hw' => ?_)
  obtain ⟨hx, F, G, rfl⟩ := hw'
  refine zIret d_X11_oddsNow_23 rfl rfl rfl ?_
  exact ⟨_, rfl, hx, F, G, rfl⟩
theorem sp_X11_walk (hd : 7 ≤ d) (hK : zSky I ns nt nh) {p t w0 : Int32} : zSp g l d 100 m_X11_walk [.ref 0, .int p, .int t, .int w0] (zU I L fs) (zX (fun x w =>
    (¬ ((0 ≤ p ∧ p < 24) ∧ (0 ≤ t ∧ t ≤ 40) ∧ 0 ≤ w0 ∧ w0 ≤ 1) ∧ x = -1 ∧ w = zU I L fs) ∨ (((0 ≤ p ∧ p < 24) ∧ (0 ≤ t ∧ t ≤ 40) ∧ 0 ≤ w0 ∧ w0 ≤ 1) ∧ x = (if w0 = 0 then (zWalk (zSpr I ns) p.toNatClampNeg t.toNatClampNeg).1 else (zWalk (zSpr I ns) p.toNatClampNeg t.toNatClampNeg).2) ∧ ∃ F G, w = zU (zup (zup I 23 F) 22 G) L fs))) := by
  rcases Decidable.em ((0 ≤ p ∧ p < 24) ∧ (0 ≤ t ∧ t ≤ 40) ∧ 0 ≤ w0 ∧ w0 ≤ 1) with hc | hc
  · obtain ⟨j, hj, rfl⟩ := zn1 (x := p) (n := 24) (by omega) hc.1.1 hc.1.2
    obtain ⟨k, hk, rfl⟩ := zn1 (x := t) (n := 41) (by omega) hc.2.1.1 (by have := hc.2.1.2; show t < 41; grind)
    rw [show (nI j).toNatClampNeg = j from zcl_n (by omega), show (nI k).toNatClampNeg = k from zcl_n (by omega)]
    have hc0 := hc
    obtain ⟨⟨c1, c2⟩, ⟨c3, c4⟩, c5, c6⟩ := hc0
    refine zSp_of (lv := [(0, .ref 0), (1, .int (nI j)), (2, .int (nI k)), (3, .int w0)]) k_X11_walk rfl (Nat.le_of_ble_eq_true rfl) ?_
    refine zIloadN d_X11_walk_0 rfl rfl (q := 1) rfl ?_
    refine zIf_lt d_X11_walk_1 (tgt := 29) (q := 4) (by decide) rfl (fun h => absurd h (Int32.not_lt.mpr c1)) (fun h1 => ?_)
    refine zIloadN d_X11_walk_4 rfl rfl (q := 5) rfl ?_
    refine zBipush d_X11_walk_5 (v := 24) bc_24 (q := 7) rfl ?_
    refine zIcmp_ge d_X11_walk_7 (tgt := 29) (q := 10) (by decide) rfl (fun h => absurd h (Int32.not_le.mpr c2)) (fun h7 => ?_)
    refine zIloadN d_X11_walk_10 rfl rfl (q := 11) rfl ?_
    refine zIf_lt d_X11_walk_11 (tgt := 29) (q := 14) (by decide) rfl (fun h => absurd h (Int32.not_lt.mpr c3)) (fun h11 => ?_)
    refine zIloadN d_X11_walk_14 rfl rfl (q := 15) rfl ?_
    refine zBipush d_X11_walk_15 (v := 40) bc_40 (q := 17) rfl ?_
    refine zIcmp_gt d_X11_walk_17 (tgt := 29) (q := 20) (by decide) rfl (fun h => absurd h (Int32.not_lt.mpr c4)) (fun h17 => ?_)
    refine zIloadN d_X11_walk_20 rfl rfl (q := 21) rfl ?_
    refine zIf_lt d_X11_walk_21 (tgt := 29) (q := 24) (by decide) rfl (fun h => absurd h (Int32.not_lt.mpr c5)) (fun h21 => ?_)
    refine zIloadN d_X11_walk_24 rfl rfl (q := 25) rfl ?_
    refine zIconst d_X11_walk_25 (v := 1) ic_1 (q := 26) rfl ?_
    refine zIcmp_le d_X11_walk_26 (tgt := 31) (q := 29) (by decide) rfl (fun h26 => ?_) (fun h => absurd c6 h)
    refine zAloadN d_X11_walk_31 rfl rfl (q := 32) rfl ?_
    refine zGetR d_X11_walk_32 ff_X11_35 sh_0 (by decide) r_0_3 (q := 35) rfl ?_
    refine zIloadN d_X11_walk_35 rfl rfl (q := 36) rfl ?_
    refine zIloadN d_X11_walk_36 rfl rfl (q := 37) rfl ?_
    refine zCallVV d_X11_walk_37 ml_X11_218 k_X3_look ki_X3_look ks_X3_look (sp_X3_look (d := d - 1) (by omega) hK hj (by omega)) rfl rfl sh_22 (by decide) rfl (by decide) (Nat.le_of_ble_eq_true rfl) (by decide) (by omega) zns100 (q := 40) rfl (fun w' hw' => ?_)
    subst hw'
    refine zIloadN d_X11_walk_40 rfl rfl (q := 41) rfl ?_
    refine zIf_ne d_X11_walk_41 (tgt := 54) (q := 44) (by decide) rfl (fun h41 => ?_) (fun h41 => ?_)
    · have q0 : ¬ w0 = 0 := h41
      refine zAloadN d_X11_walk_54 rfl rfl (q := 55) rfl ?_
      refine zGetR d_X11_walk_55 ff_X11_35 sh_0 (by decide) r_0_3 (q := 58) rfl ?_
      refine zGetI d_X11_walk_58 ff_X11_225 sh_22 (by decide) (q := 61) rfl ?_
      refine zIret d_X11_walk_61 rfl rfl rfl ?_
      exact ⟨_, rfl, Or.inr ⟨hc, by first | (rw [if_pos q0]; rfl) | (rw [if_neg q0]; rfl), _, _, rfl⟩⟩
    · have q0 : w0 = 0 := by simpa using h41
      refine zAloadN d_X11_walk_44 rfl rfl (q := 45) rfl ?_
      refine zGetR d_X11_walk_45 ff_X11_35 sh_0 (by decide) r_0_3 (q := 48) rfl ?_
      refine zGetI d_X11_walk_48 ff_X11_222 sh_22 (by decide) (q := 51) rfl ?_
      refine zGoto d_X11_walk_51 (q := 61) (by decide) ?_
      refine zIret d_X11_walk_61 rfl rfl rfl ?_
      exact ⟨_, rfl, Or.inr ⟨hc, by first | (rw [if_pos q0]; rfl) | (rw [if_neg q0]; rfl), _, _, rfl⟩⟩
  ·
    refine zSp_of (lv := [(0, .ref 0), (1, .int p), (2, .int t), (3, .int w0)]) k_X11_walk rfl (Nat.le_of_ble_eq_true rfl) ?_
    refine zIloadN d_X11_walk_0 rfl rfl (q := 1) rfl ?_
    refine zIf_lt d_X11_walk_1 (tgt := 29) (q := 4) (by decide) rfl (fun h1 => ?_) (fun h1 => ?_)
    · refine zIconst d_X11_walk_29 (v := -1) ic_m1 (q := 30) rfl ?_
      refine zIret d_X11_walk_30 rfl rfl rfl ?_
      exact ⟨_, rfl, Or.inl ⟨hc, rfl, rfl⟩⟩
    · refine zIloadN d_X11_walk_4 rfl rfl (q := 5) rfl ?_
      refine zBipush d_X11_walk_5 (v := 24) bc_24 (q := 7) rfl ?_
      refine zIcmp_ge d_X11_walk_7 (tgt := 29) (q := 10) (by decide) rfl (fun h7 => ?_) (fun h7 => ?_)
      · refine zIconst d_X11_walk_29 (v := -1) ic_m1 (q := 30) rfl ?_
        refine zIret d_X11_walk_30 rfl rfl rfl ?_
        exact ⟨_, rfl, Or.inl ⟨hc, rfl, rfl⟩⟩
      · refine zIloadN d_X11_walk_10 rfl rfl (q := 11) rfl ?_
        refine zIf_lt d_X11_walk_11 (tgt := 29) (q := 14) (by decide) rfl (fun h11 => ?_) (fun h11 => ?_)
        · refine zIconst d_X11_walk_29 (v := -1) ic_m1 (q := 30) rfl ?_
          refine zIret d_X11_walk_30 rfl rfl rfl ?_
          exact ⟨_, rfl, Or.inl ⟨hc, rfl, rfl⟩⟩
        · refine zIloadN d_X11_walk_14 rfl rfl (q := 15) rfl ?_
          refine zBipush d_X11_walk_15 (v := 40) bc_40 (q := 17) rfl ?_
          refine zIcmp_gt d_X11_walk_17 (tgt := 29) (q := 20) (by decide) rfl (fun h17 => ?_) (fun h17 => ?_)
          · refine zIconst d_X11_walk_29 (v := -1) ic_m1 (q := 30) rfl ?_
            refine zIret d_X11_walk_30 rfl rfl rfl ?_
            exact ⟨_, rfl, Or.inl ⟨hc, rfl, rfl⟩⟩
          · refine zIloadN d_X11_walk_20 rfl rfl (q := 21) rfl ?_
            refine zIf_lt d_X11_walk_21 (tgt := 29) (q := 24) (by decide) rfl (fun h21 => ?_) (fun h21 => ?_)
            · refine zIconst d_X11_walk_29 (v := -1) ic_m1 (q := 30) rfl ?_
              refine zIret d_X11_walk_30 rfl rfl rfl ?_
              exact ⟨_, rfl, Or.inl ⟨hc, rfl, rfl⟩⟩
            · refine zIloadN d_X11_walk_24 rfl rfl (q := 25) rfl ?_
              refine zIconst d_X11_walk_25 (v := 1) ic_1 (q := 26) rfl ?_
              refine zIcmp_le d_X11_walk_26 (tgt := 31) (q := 29) (by decide) rfl (fun h => absurd h (fun q => hc (by grind))) (fun h26 => ?_)
              refine zIconst d_X11_walk_29 (v := -1) ic_m1 (q := 30) rfl ?_
              refine zIret d_X11_walk_30 rfl rfl rfl ?_
              exact ⟨_, rfl, Or.inl ⟨hc, rfl, rfl⟩⟩
theorem sp_X11_byTurns (hd : 13 ≤ d) (hK : zSky I ns nt nh) {n w0 : Int32} : zSp g l d 100 m_X11_byTurns [.ref 0, .int n, .int w0] (zU I L fs) (zX (fun x w =>
    (¬ ((1 ≤ n ∧ n ≤ 4) ∧ 0 ≤ w0 ∧ w0 ≤ 1) ∧ x = -1 ∧ w = zU I L fs) ∨ (((1 ≤ n ∧ n ≤ 4) ∧ 0 ≤ w0 ∧ w0 ≤ 1) ∧ x = (if w0 = 0 then (zPTs I ns nh (n.toNatClampNeg - 1)).1 else (zPTs I ns nh (n.toNatClampNeg - 1)).2) ∧ ∃ J, w = zU J L fs ∧ ∀ a, a ≠ 16 → J a = I a))) := by
  rcases Decidable.em ((1 ≤ n ∧ n ≤ 4) ∧ 0 ≤ w0 ∧ w0 ≤ 1) with hc | hc
  · obtain ⟨j, hj, rfl⟩ := zn1 (x := n) (n := 5) (by omega) (by have := hc.1.1; grind) (by have := hc.1.2; show n < 5; grind)
    rw [show (nI j).toNatClampNeg = j from zcl_n (by omega)]
    have hc0 := hc
    obtain ⟨⟨c1, c2⟩, c5, c6⟩ := hc0
    have j1 : 1 ≤ j := nle (a := j) (b := 1) c1
    obtain ⟨i, rfl⟩ : ∃ i, j = i + 1 := ⟨j - 1, by omega⟩
    refine zSp_of (lv := [(0, .ref 0), (1, .int (nI (i + 1))), (2, .int w0)]) k_X11_byTurns rfl (Nat.le_of_ble_eq_true rfl) ?_
    refine zIloadN d_X11_byTurns_0 rfl rfl (q := 1) rfl ?_
    refine zIconst d_X11_byTurns_1 (v := 1) ic_1 (q := 2) rfl ?_
    refine zIcmp_lt d_X11_byTurns_2 (tgt := 19) (q := 5) (by decide) rfl (fun h => absurd h (Int32.not_lt.mpr c1)) (fun h2 => ?_)
    refine zIloadN d_X11_byTurns_5 rfl rfl (q := 6) rfl ?_
    refine zIconst d_X11_byTurns_6 (v := 4) ic_4 (q := 7) rfl ?_
    refine zIcmp_gt d_X11_byTurns_7 (tgt := 19) (q := 10) (by decide) rfl (fun h => absurd h (Int32.not_lt.mpr c2)) (fun h7 => ?_)
    refine zIloadN d_X11_byTurns_10 rfl rfl (q := 11) rfl ?_
    refine zIf_lt d_X11_byTurns_11 (tgt := 19) (q := 14) (by decide) rfl (fun h => absurd h (Int32.not_lt.mpr c5)) (fun h11 => ?_)
    refine zIloadN d_X11_byTurns_14 rfl rfl (q := 15) rfl ?_
    refine zIconst d_X11_byTurns_15 (v := 1) ic_1 (q := 16) rfl ?_
    refine zIcmp_le d_X11_byTurns_16 (tgt := 21) (q := 19) (by decide) rfl (fun h16 => ?_) (fun h => absurd c6 h)
    refine zAloadN d_X11_byTurns_21 rfl rfl (q := 22) rfl ?_
    refine zGetR d_X11_byTurns_22 ff_X11_21 sh_0 (by decide) r_0_1 (q := 25) rfl ?_
    refine zIloadN d_X11_byTurns_25 rfl rfl (q := 26) rfl ?_
    refine zCallVV d_X11_byTurns_26 ml_X11_262 k_X4_playTurns ki_X4_playTurns ks_X4_playTurns (sp_X4_playTurns (d := d - 1) (by omega) hK (n := i) (by omega)) rfl rfl sh_16 (by decide) rfl (by decide) (Nat.le_of_ble_eq_true rfl) (by decide) (by omega) zns100 (q := 29) rfl (fun w' hw' => ?_)
    obtain ⟨J, rfl, hJ, q7, q8⟩ := hw'
    refine zIloadN d_X11_byTurns_29 rfl rfl (q := 30) rfl ?_
    refine zIf_ne d_X11_byTurns_30 (tgt := 43) (q := 33) (by decide) rfl (fun h30 => ?_) (fun h30 => ?_)
    · have q0 : ¬ w0 = 0 := h30
      refine zAloadN d_X11_byTurns_43 rfl rfl (q := 44) rfl ?_
      refine zGetR d_X11_byTurns_44 ff_X11_21 sh_0 (by decide) r_0_1 (q := 47) rfl ?_
      refine zGetI d_X11_byTurns_47 ff_X11_269 sh_16 (by decide) (q := 50) rfl ?_
      refine zIret d_X11_byTurns_50 rfl rfl rfl ?_
      exact ⟨_, rfl, Or.inr ⟨hc, by first | (rw [if_pos q0]; exact q7) | (rw [if_neg q0]; exact q8), J, rfl, hJ⟩⟩
    · have q0 : w0 = 0 := by simpa using h30
      refine zAloadN d_X11_byTurns_33 rfl rfl (q := 34) rfl ?_
      refine zGetR d_X11_byTurns_34 ff_X11_21 sh_0 (by decide) r_0_1 (q := 37) rfl ?_
      refine zGetI d_X11_byTurns_37 ff_X11_266 sh_16 (by decide) (q := 40) rfl ?_
      refine zGoto d_X11_byTurns_40 (q := 50) (by decide) ?_
      refine zIret d_X11_byTurns_50 rfl rfl rfl ?_
      exact ⟨_, rfl, Or.inr ⟨hc, by first | (rw [if_pos q0]; exact q7) | (rw [if_neg q0]; exact q8), J, rfl, hJ⟩⟩
  ·
    refine zSp_of (lv := [(0, .ref 0), (1, .int n), (2, .int w0)]) k_X11_byTurns rfl (Nat.le_of_ble_eq_true rfl) ?_
    refine zIloadN d_X11_byTurns_0 rfl rfl (q := 1) rfl ?_
    refine zIconst d_X11_byTurns_1 (v := 1) ic_1 (q := 2) rfl ?_
    refine zIcmp_lt d_X11_byTurns_2 (tgt := 19) (q := 5) (by decide) rfl (fun h2 => ?_) (fun h2 => ?_)
    · refine zIconst d_X11_byTurns_19 (v := -1) ic_m1 (q := 20) rfl ?_
      refine zIret d_X11_byTurns_20 rfl rfl rfl ?_
      exact ⟨_, rfl, Or.inl ⟨hc, rfl, rfl⟩⟩
    · refine zIloadN d_X11_byTurns_5 rfl rfl (q := 6) rfl ?_
      refine zIconst d_X11_byTurns_6 (v := 4) ic_4 (q := 7) rfl ?_
      refine zIcmp_gt d_X11_byTurns_7 (tgt := 19) (q := 10) (by decide) rfl (fun h7 => ?_) (fun h7 => ?_)
      · refine zIconst d_X11_byTurns_19 (v := -1) ic_m1 (q := 20) rfl ?_
        refine zIret d_X11_byTurns_20 rfl rfl rfl ?_
        exact ⟨_, rfl, Or.inl ⟨hc, rfl, rfl⟩⟩
      · refine zIloadN d_X11_byTurns_10 rfl rfl (q := 11) rfl ?_
        refine zIf_lt d_X11_byTurns_11 (tgt := 19) (q := 14) (by decide) rfl (fun h11 => ?_) (fun h11 => ?_)
        · refine zIconst d_X11_byTurns_19 (v := -1) ic_m1 (q := 20) rfl ?_
          refine zIret d_X11_byTurns_20 rfl rfl rfl ?_
          exact ⟨_, rfl, Or.inl ⟨hc, rfl, rfl⟩⟩
        · refine zIloadN d_X11_byTurns_14 rfl rfl (q := 15) rfl ?_
          refine zIconst d_X11_byTurns_15 (v := 1) ic_1 (q := 16) rfl ?_
          refine zIcmp_le d_X11_byTurns_16 (tgt := 21) (q := 19) (by decide) rfl (fun h => absurd h (fun q => hc (by grind))) (fun h16 => ?_)
          refine zIconst d_X11_byTurns_19 (v := -1) ic_m1 (q := 20) rfl ?_
          refine zIret d_X11_byTurns_20 rfl rfl rfl ?_
          exact ⟨_, rfl, Or.inl ⟨hc, rfl, rfl⟩⟩
end S31

