theorem d_X11_count_0 : decode (zmc m_X11_count) 0 = .ok (.iload_n 1, 1) := by decide +kernel
theorem d_X11_count_1 : decode (zmc m_X11_count) 1 = .ok (.tableswitch 115 0 7 #[47, 55, 67, 75, 83, 91, 99, 107], 47) := by decide +kernel
theorem d_X11_count_48 : decode (zmc m_X11_count) 48 = .ok (.aload_n 0, 1) := by decide +kernel
theorem d_X11_count_49 : decode (zmc m_X11_count) 49 = .ok (.getfield 10, 3) := by decide +kernel
theorem d_X11_count_52 : decode (zmc m_X11_count) 52 = .ok (.getfield 370, 3) := by decide +kernel
theorem d_X11_count_55 : decode (zmc m_X11_count) 55 = .ok (.ireturn, 1) := by decide +kernel
theorem d_X11_count_56 : decode (zmc m_X11_count) 56 = .ok (.aload_n 0, 1) := by decide +kernel
theorem d_X11_count_57 : decode (zmc m_X11_count) 57 = .ok (.getfield 10, 3) := by decide +kernel
theorem d_X11_count_60 : decode (zmc m_X11_count) 60 = .ok (.iconst 4, 1) := by decide +kernel
theorem d_X11_count_61 : decode (zmc m_X11_count) 61 = .ok (.invokevirtual 228, 3) := by decide +kernel
theorem d_X11_count_64 : decode (zmc m_X11_count) 64 = .ok (.invokestatic 195, 3) := by decide +kernel
theorem d_X11_count_67 : decode (zmc m_X11_count) 67 = .ok (.ireturn, 1) := by decide +kernel
theorem d_X11_count_68 : decode (zmc m_X11_count) 68 = .ok (.aload_n 0, 1) := by decide +kernel
theorem d_X11_count_69 : decode (zmc m_X11_count) 69 = .ok (.getfield 49, 3) := by decide +kernel
theorem d_X11_count_72 : decode (zmc m_X11_count) 72 = .ok (.getfield 373, 3) := by decide +kernel
theorem d_X11_count_75 : decode (zmc m_X11_count) 75 = .ok (.ireturn, 1) := by decide +kernel
theorem d_X11_count_76 : decode (zmc m_X11_count) 76 = .ok (.aload_n 0, 1) := by decide +kernel
theorem d_X11_count_77 : decode (zmc m_X11_count) 77 = .ok (.getfield 56, 3) := by decide +kernel
theorem d_X11_count_80 : decode (zmc m_X11_count) 80 = .ok (.getfield 376, 3) := by decide +kernel
theorem d_X11_count_83 : decode (zmc m_X11_count) 83 = .ok (.ireturn, 1) := by decide +kernel
theorem d_X11_count_84 : decode (zmc m_X11_count) 84 = .ok (.aload_n 0, 1) := by decide +kernel
theorem d_X11_count_85 : decode (zmc m_X11_count) 85 = .ok (.getfield 70, 3) := by decide +kernel
theorem d_X11_count_88 : decode (zmc m_X11_count) 88 = .ok (.getfield 320, 3) := by decide +kernel
theorem d_X11_count_91 : decode (zmc m_X11_count) 91 = .ok (.ireturn, 1) := by decide +kernel
theorem d_X11_count_92 : decode (zmc m_X11_count) 92 = .ok (.aload_n 0, 1) := by decide +kernel
theorem d_X11_count_93 : decode (zmc m_X11_count) 93 = .ok (.getfield 70, 3) := by decide +kernel
theorem d_X11_count_96 : decode (zmc m_X11_count) 96 = .ok (.getfield 377, 3) := by decide +kernel
theorem d_X11_count_99 : decode (zmc m_X11_count) 99 = .ok (.ireturn, 1) := by decide +kernel
theorem d_X11_count_100 : decode (zmc m_X11_count) 100 = .ok (.aload_n 0, 1) := by decide +kernel
theorem d_X11_count_101 : decode (zmc m_X11_count) 101 = .ok (.getfield 10, 3) := by decide +kernel
theorem d_X11_count_104 : decode (zmc m_X11_count) 104 = .ok (.getfield 189, 3) := by decide +kernel
theorem d_X11_count_107 : decode (zmc m_X11_count) 107 = .ok (.ireturn, 1) := by decide +kernel
theorem d_X11_count_108 : decode (zmc m_X11_count) 108 = .ok (.aload_n 0, 1) := by decide +kernel
theorem d_X11_count_109 : decode (zmc m_X11_count) 109 = .ok (.getfield 10, 3) := by decide +kernel
theorem d_X11_count_112 : decode (zmc m_X11_count) 112 = .ok (.getfield 380, 3) := by decide +kernel
theorem d_X11_count_115 : decode (zmc m_X11_count) 115 = .ok (.ireturn, 1) := by decide +kernel
theorem d_X11_count_116 : decode (zmc m_X11_count) 116 = .ok (.iconst (-1), 1) := by decide +kernel
theorem d_X11_count_117 : decode (zmc m_X11_count) 117 = .ok (.ireturn, 1) := by decide +kernel
theorem d_X11_fewest_0 : decode (zmc m_X11_fewest) 0 = .ok (.iload_n 1, 1) := by decide +kernel
theorem d_X11_fewest_1 : decode (zmc m_X11_fewest) 1 = .ok (.ifCond .lt 8, 3) := by decide +kernel
theorem d_X11_fewest_4 : decode (zmc m_X11_fewest) 4 = .ok (.iload_n 1, 1) := by decide +kernel
theorem d_X11_fewest_5 : decode (zmc m_X11_fewest) 5 = .ok (.iconst 3, 1) := by decide +kernel
theorem d_X11_fewest_6 : decode (zmc m_X11_fewest) 6 = .ok (.if_icmp .le 5, 3) := by decide +kernel
theorem d_X11_fewest_9 : decode (zmc m_X11_fewest) 9 = .ok (.iconst (-1), 1) := by decide +kernel
theorem d_X11_fewest_10 : decode (zmc m_X11_fewest) 10 = .ok (.ireturn, 1) := by decide +kernel
theorem d_X11_fewest_11 : decode (zmc m_X11_fewest) 11 = .ok (.iload_n 1, 1) := by decide +kernel
theorem d_X11_fewest_12 : decode (zmc m_X11_fewest) 12 = .ok (.iconst 2, 1) := by decide +kernel
theorem d_X11_fewest_13 : decode (zmc m_X11_fewest) 13 = .ok (.if_icmp .ge 7, 3) := by decide +kernel
theorem d_X11_fewest_16 : decode (zmc m_X11_fewest) 16 = .ok (.iconst 1, 1) := by decide +kernel
theorem d_X11_fewest_17 : decode (zmc m_X11_fewest) 17 = .ok (.goto 4, 3) := by decide +kernel
theorem d_X11_fewest_20 : decode (zmc m_X11_fewest) 20 = .ok (.iconst 2, 1) := by decide +kernel
theorem d_X11_fewest_21 : decode (zmc m_X11_fewest) 21 = .ok (.istore_n 2, 1) := by decide +kernel
theorem d_X11_fewest_22 : decode (zmc m_X11_fewest) 22 = .ok (.aload_n 0, 1) := by decide +kernel
theorem d_X11_fewest_23 : decode (zmc m_X11_fewest) 23 = .ok (.getfield 21, 3) := by decide +kernel
theorem d_X11_fewest_26 : decode (zmc m_X11_fewest) 26 = .ok (.iload_n 2, 1) := by decide +kernel
theorem d_X11_fewest_27 : decode (zmc m_X11_fewest) 27 = .ok (.invokevirtual 234, 3) := by decide +kernel
theorem d_X11_fewest_30 : decode (zmc m_X11_fewest) 30 = .ok (.istore_n 3, 1) := by decide +kernel
theorem d_X11_fewest_31 : decode (zmc m_X11_fewest) 31 = .ok (.iload_n 3, 1) := by decide +kernel
theorem d_X11_fewest_32 : decode (zmc m_X11_fewest) 32 = .ok (.ifCond .ge 6, 3) := by decide +kernel
theorem d_X11_fewest_35 : decode (zmc m_X11_fewest) 35 = .ok (.bipush (-2), 2) := by decide +kernel
theorem d_X11_fewest_37 : decode (zmc m_X11_fewest) 37 = .ok (.ireturn, 1) := by decide +kernel
theorem d_X11_fewest_38 : decode (zmc m_X11_fewest) 38 = .ok (.iload_n 1, 1) := by decide +kernel
theorem d_X11_fewest_39 : decode (zmc m_X11_fewest) 39 = .ok (.iconst 2, 1) := by decide +kernel
theorem d_X11_fewest_40 : decode (zmc m_X11_fewest) 40 = .ok (.irem, 1) := by decide +kernel
theorem d_X11_fewest_41 : decode (zmc m_X11_fewest) 41 = .ok (.ifCond .ne 10, 3) := by decide +kernel
theorem d_X11_fewest_44 : decode (zmc m_X11_fewest) 44 = .ok (.iload_n 3, 1) := by decide +kernel
theorem d_X11_fewest_45 : decode (zmc m_X11_fewest) 45 = .ok (.invokestatic 195, 3) := by decide +kernel
theorem d_X11_fewest_48 : decode (zmc m_X11_fewest) 48 = .ok (.goto 4, 3) := by decide +kernel
theorem d_X11_fewest_51 : decode (zmc m_X11_fewest) 51 = .ok (.iload_n 3, 1) := by decide +kernel
theorem d_X11_fewest_52 : decode (zmc m_X11_fewest) 52 = .ok (.ireturn, 1) := by decide +kernel
theorem d_X11_home_0 : decode (zmc m_X11_home) 0 = .ok (.aload_n 0, 1) := by decide +kernel
theorem d_X11_home_1 : decode (zmc m_X11_home) 1 = .ok (.iload_n 1, 1) := by decide +kernel
theorem d_X11_home_2 : decode (zmc m_X11_home) 2 = .ok (.invokevirtual 95, 3) := by decide +kernel
theorem d_X11_home_5 : decode (zmc m_X11_home) 5 = .ok (.astore_n 3, 1) := by decide +kernel
theorem d_X11_home_6 : decode (zmc m_X11_home) 6 = .ok (.aload_n 3, 1) := by decide +kernel
theorem d_X11_home_7 : decode (zmc m_X11_home) 7 = .ok (.ifnull 12, 3) := by decide +kernel
theorem d_X11_home_10 : decode (zmc m_X11_home) 10 = .ok (.iload_n 2, 1) := by decide +kernel
theorem d_X11_home_11 : decode (zmc m_X11_home) 11 = .ok (.ifCond .lt 8, 3) := by decide +kernel
theorem d_X11_home_14 : decode (zmc m_X11_home) 14 = .ok (.iload_n 2, 1) := by decide +kernel
theorem d_X11_home_15 : decode (zmc m_X11_home) 15 = .ok (.iconst 1, 1) := by decide +kernel
theorem d_X11_home_16 : decode (zmc m_X11_home) 16 = .ok (.if_icmp .le 5, 3) := by decide +kernel
theorem d_X11_home_19 : decode (zmc m_X11_home) 19 = .ok (.iconst (-1), 1) := by decide +kernel
theorem d_X11_home_20 : decode (zmc m_X11_home) 20 = .ok (.ireturn, 1) := by decide +kernel
theorem d_X11_home_21 : decode (zmc m_X11_home) 21 = .ok (.aload_n 3, 1) := by decide +kernel
theorem d_X11_home_22 : decode (zmc m_X11_home) 22 = .ok (.invokevirtual 103, 3) := by decide +kernel
theorem d_X11_home_25 : decode (zmc m_X11_home) 25 = .ok (.ifCond .ne 8, 3) := by decide +kernel
theorem d_X11_home_28 : decode (zmc m_X11_home) 28 = .ok (.aload_n 3, 1) := by decide +kernel
theorem d_X11_home_29 : decode (zmc m_X11_home) 29 = .ok (.invokevirtual 159, 3) := by decide +kernel
theorem d_X11_home_32 : decode (zmc m_X11_home) 32 = .ok (.ireturn, 1) := by decide +kernel
theorem d_X11_home_33 : decode (zmc m_X11_home) 33 = .ok (.aload_n 0, 1) := by decide +kernel
theorem d_X11_home_34 : decode (zmc m_X11_home) 34 = .ok (.getfield 21, 3) := by decide +kernel
theorem d_X11_home_37 : decode (zmc m_X11_home) 37 = .ok (.aload_n 3, 1) := by decide +kernel
theorem d_X11_home_38 : decode (zmc m_X11_home) 38 = .ok (.invokevirtual 237, 3) := by decide +kernel
theorem d_X11_home_41 : decode (zmc m_X11_home) 41 = .ok (.aload_n 0, 1) := by decide +kernel
theorem d_X11_home_42 : decode (zmc m_X11_home) 42 = .ok (.getfield 21, 3) := by decide +kernel
theorem d_X11_home_45 : decode (zmc m_X11_home) 45 = .ok (.invokevirtual 241, 3) := by decide +kernel
theorem d_X11_home_48 : decode (zmc m_X11_home) 48 = .ok (.iload_n 2, 1) := by decide +kernel
theorem d_X11_home_49 : decode (zmc m_X11_home) 49 = .ok (.ifCond .ne 11, 3) := by decide +kernel
theorem d_X11_home_52 : decode (zmc m_X11_home) 52 = .ok (.aload_n 0, 1) := by decide +kernel
theorem d_X11_home_53 : decode (zmc m_X11_home) 53 = .ok (.getfield 21, 3) := by decide +kernel
theorem d_X11_home_56 : decode (zmc m_X11_home) 56 = .ok (.getfield 244, 3) := by decide +kernel
theorem d_X11_home_59 : decode (zmc m_X11_home) 59 = .ok (.ireturn, 1) := by decide +kernel
theorem d_X11_home_60 : decode (zmc m_X11_home) 60 = .ok (.aload_n 0, 1) := by decide +kernel
theorem d_X11_home_61 : decode (zmc m_X11_home) 61 = .ok (.getfield 21, 3) := by decide +kernel
theorem d_X11_home_64 : decode (zmc m_X11_home) 64 = .ok (.getfield 244, 3) := by decide +kernel
theorem d_X11_home_67 : decode (zmc m_X11_home) 67 = .ok (.ifCond .ne 8, 3) := by decide +kernel
theorem d_X11_home_70 : decode (zmc m_X11_home) 70 = .ok (.bipush (-2), 2) := by decide +kernel
theorem d_X11_home_72 : decode (zmc m_X11_home) 72 = .ok (.goto 10, 3) := by decide +kernel
theorem d_X11_home_75 : decode (zmc m_X11_home) 75 = .ok (.aload_n 0, 1) := by decide +kernel
theorem d_X11_home_76 : decode (zmc m_X11_home) 76 = .ok (.getfield 21, 3) := by decide +kernel
theorem d_X11_home_79 : decode (zmc m_X11_home) 79 = .ok (.getfield 247, 3) := by decide +kernel
theorem d_X11_home_82 : decode (zmc m_X11_home) 82 = .ok (.ireturn, 1) := by decide +kernel
theorem d_X11_odds_0 : decode (zmc m_X11_odds) 0 = .ok (.aload_n 0, 1) := by decide +kernel
theorem d_X11_odds_1 : decode (zmc m_X11_odds) 1 = .ok (.getfield 10, 3) := by decide +kernel
theorem d_X11_odds_4 : decode (zmc m_X11_odds) 4 = .ok (.iload_n 1, 1) := by decide +kernel
theorem d_X11_odds_5 : decode (zmc m_X11_odds) 5 = .ok (.invokevirtual 152, 3) := by decide +kernel
theorem d_X11_odds_8 : decode (zmc m_X11_odds) 8 = .ok (.ifCond .eq 18, 3) := by decide +kernel
theorem d_X11_odds_11 : decode (zmc m_X11_odds) 11 = .ok (.aload_n 0, 1) := by decide +kernel
theorem d_X11_odds_12 : decode (zmc m_X11_odds) 12 = .ok (.iload_n 1, 1) := by decide +kernel
theorem d_X11_odds_13 : decode (zmc m_X11_odds) 13 = .ok (.bipush 10, 2) := by decide +kernel
theorem d_X11_odds_15 : decode (zmc m_X11_odds) 15 = .ok (.idiv, 1) := by decide +kernel
theorem d_X11_odds_16 : decode (zmc m_X11_odds) 16 = .ok (.iload_n 1, 1) := by decide +kernel
theorem d_X11_odds_17 : decode (zmc m_X11_odds) 17 = .ok (.bipush 10, 2) := by decide +kernel
theorem d_X11_odds_19 : decode (zmc m_X11_odds) 19 = .ok (.irem, 1) := by decide +kernel
theorem d_X11_odds_20 : decode (zmc m_X11_odds) 20 = .ok (.invokevirtual 156, 3) := by decide +kernel
theorem d_X11_odds_23 : decode (zmc m_X11_odds) 23 = .ok (.goto 4, 3) := by decide +kernel
theorem d_X11_odds_26 : decode (zmc m_X11_odds) 26 = .ok (.iconst (-1), 1) := by decide +kernel
theorem d_X11_odds_27 : decode (zmc m_X11_odds) 27 = .ok (.ireturn, 1) := by decide +kernel
theorem d_X11_pattern_0 : decode (zmc m_X11_pattern) 0 = .ok (.aload_n 0, 1) := by decide +kernel
theorem d_X11_pattern_1 : decode (zmc m_X11_pattern) 1 = .ok (.iload_n 1, 1) := by decide +kernel
theorem d_X11_pattern_2 : decode (zmc m_X11_pattern) 2 = .ok (.invokevirtual 95, 3) := by decide +kernel
theorem d_X11_pattern_5 : decode (zmc m_X11_pattern) 5 = .ok (.astore_n 3, 1) := by decide +kernel
theorem d_X11_pattern_6 : decode (zmc m_X11_pattern) 6 = .ok (.aload_n 3, 1) := by decide +kernel
theorem d_X11_pattern_7 : decode (zmc m_X11_pattern) 7 = .ok (.ifnull 12, 3) := by decide +kernel
theorem d_X11_pattern_10 : decode (zmc m_X11_pattern) 10 = .ok (.iload_n 2, 1) := by decide +kernel
theorem d_X11_pattern_11 : decode (zmc m_X11_pattern) 11 = .ok (.ifCond .lt 8, 3) := by decide +kernel
theorem d_X11_pattern_14 : decode (zmc m_X11_pattern) 14 = .ok (.iload_n 2, 1) := by decide +kernel
theorem d_X11_pattern_15 : decode (zmc m_X11_pattern) 15 = .ok (.iconst 3, 1) := by decide +kernel
theorem d_X11_pattern_16 : decode (zmc m_X11_pattern) 16 = .ok (.if_icmp .le 5, 3) := by decide +kernel
theorem d_X11_pattern_19 : decode (zmc m_X11_pattern) 19 = .ok (.iconst (-1), 1) := by decide +kernel
theorem d_X11_pattern_20 : decode (zmc m_X11_pattern) 20 = .ok (.ireturn, 1) := by decide +kernel
theorem d_X11_pattern_21 : decode (zmc m_X11_pattern) 21 = .ok (.aload_n 3, 1) := by decide +kernel
theorem d_X11_pattern_22 : decode (zmc m_X11_pattern) 22 = .ok (.invokevirtual 103, 3) := by decide +kernel
theorem d_X11_pattern_25 : decode (zmc m_X11_pattern) 25 = .ok (.ifCond .ne 8, 3) := by decide +kernel
theorem d_X11_pattern_28 : decode (zmc m_X11_pattern) 28 = .ok (.aload_n 3, 1) := by decide +kernel
theorem d_X11_pattern_29 : decode (zmc m_X11_pattern) 29 = .ok (.invokevirtual 159, 3) := by decide +kernel
theorem d_X11_pattern_32 : decode (zmc m_X11_pattern) 32 = .ok (.ireturn, 1) := by decide +kernel
theorem d_X11_pattern_33 : decode (zmc m_X11_pattern) 33 = .ok (.aload_n 0, 1) := by decide +kernel
theorem d_X11_pattern_34 : decode (zmc m_X11_pattern) 34 = .ok (.getfield 28, 3) := by decide +kernel
theorem d_X11_pattern_37 : decode (zmc m_X11_pattern) 37 = .ok (.aload_n 3, 1) := by decide +kernel
theorem d_X11_pattern_38 : decode (zmc m_X11_pattern) 38 = .ok (.iload_n 2, 1) := by decide +kernel
theorem d_X11_pattern_39 : decode (zmc m_X11_pattern) 39 = .ok (.iconst 2, 1) := by decide +kernel
theorem d_X11_pattern_40 : decode (zmc m_X11_pattern) 40 = .ok (.if_icmp .lt 7, 3) := by decide +kernel
theorem d_X11_pattern_43 : decode (zmc m_X11_pattern) 43 = .ok (.iconst 1, 1) := by decide +kernel
theorem d_X11_pattern_44 : decode (zmc m_X11_pattern) 44 = .ok (.goto 4, 3) := by decide +kernel
theorem d_X11_pattern_47 : decode (zmc m_X11_pattern) 47 = .ok (.iconst 0, 1) := by decide +kernel
theorem d_X11_pattern_48 : decode (zmc m_X11_pattern) 48 = .ok (.invokevirtual 250, 3) := by decide +kernel
theorem d_X11_pattern_51 : decode (zmc m_X11_pattern) 51 = .ok (.aload_n 0, 1) := by decide +kernel
theorem d_X11_pattern_52 : decode (zmc m_X11_pattern) 52 = .ok (.getfield 28, 3) := by decide +kernel
theorem d_X11_pattern_55 : decode (zmc m_X11_pattern) 55 = .ok (.invokevirtual 253, 3) := by decide +kernel
theorem d_X11_pattern_58 : decode (zmc m_X11_pattern) 58 = .ok (.iload_n 2, 1) := by decide +kernel
theorem d_X11_pattern_59 : decode (zmc m_X11_pattern) 59 = .ok (.iconst 2, 1) := by decide +kernel
theorem d_X11_pattern_60 : decode (zmc m_X11_pattern) 60 = .ok (.irem, 1) := by decide +kernel
theorem d_X11_pattern_61 : decode (zmc m_X11_pattern) 61 = .ok (.ifCond .ne 11, 3) := by decide +kernel
theorem d_X11_pattern_64 : decode (zmc m_X11_pattern) 64 = .ok (.aload_n 0, 1) := by decide +kernel
theorem d_X11_pattern_65 : decode (zmc m_X11_pattern) 65 = .ok (.getfield 28, 3) := by decide +kernel
theorem d_X11_pattern_68 : decode (zmc m_X11_pattern) 68 = .ok (.getfield 256, 3) := by decide +kernel
theorem d_X11_pattern_71 : decode (zmc m_X11_pattern) 71 = .ok (.ireturn, 1) := by decide +kernel
theorem d_X11_pattern_72 : decode (zmc m_X11_pattern) 72 = .ok (.aload_n 0, 1) := by decide +kernel
theorem d_X11_pattern_73 : decode (zmc m_X11_pattern) 73 = .ok (.getfield 28, 3) := by decide +kernel
theorem d_X11_pattern_76 : decode (zmc m_X11_pattern) 76 = .ok (.getfield 256, 3) := by decide +kernel
theorem d_X11_pattern_79 : decode (zmc m_X11_pattern) 79 = .ok (.ifCond .ne 8, 3) := by decide +kernel
theorem d_X11_pattern_82 : decode (zmc m_X11_pattern) 82 = .ok (.bipush (-2), 2) := by decide +kernel
theorem d_X11_pattern_84 : decode (zmc m_X11_pattern) 84 = .ok (.goto 10, 3) := by decide +kernel
theorem d_X11_pattern_87 : decode (zmc m_X11_pattern) 87 = .ok (.aload_n 0, 1) := by decide +kernel
theorem d_X11_pattern_88 : decode (zmc m_X11_pattern) 88 = .ok (.getfield 28, 3) := by decide +kernel
theorem d_X11_pattern_91 : decode (zmc m_X11_pattern) 91 = .ok (.getfield 259, 3) := by decide +kernel
theorem d_X11_pattern_94 : decode (zmc m_X11_pattern) 94 = .ok (.ireturn, 1) := by decide +kernel
/-! WHAT A WATCH ANSWERS, THROWS AND ROWS -/
section S33
variable {g : zG} {l : Launch} {d : Nat} {I : Nat → Nat → Int32} {L : Nat → Nat → Int64} {fs : Nat × Nat × Option Nat} {ns nt nh h h2 : Nat} {o : Option Nat}
theorem nI_divn {a b : Nat} (ha : a < 2 ^ 31) (h0 : 0 < b) (hb : b < 2 ^ 31) : nI a / nI b = nI (a / b) := by
  have hq : a / b < 2 ^ 31 := Nat.lt_of_le_of_lt (Nat.div_le_self a b) ha
  apply Int32.toInt_inj.mp
  have hne : nI b ≠ -1 := fun e => by
    have h2 : (nI b).toInt = -1 := by rw [e]; rfl
    rw [nI_toInt hb] at h2; omega
  rw [Int32.toInt_div_of_ne_right _ _ hne, nI_toInt ha, nI_toInt hb, nI_toInt hq]
  rfl
theorem nI_mul2 {a b : Nat} : nI a * nI b = nI (a * b) := (Int32.ofNat_mul a b).symm
theorem nI_sub2 {a b : Nat} (h : b ≤ a) : nI a - nI b = nI (a - b) := by
  have e : nI a = nI (a - b) + nI b := by rw [nI_add, Nat.sub_add_cancel h]
  rw [e, Int32.add_sub_cancel]
theorem nI_rem {a b : Nat} (ha : a < 2 ^ 31) (h0 : 0 < b) (hb : b < 2 ^ 31) : nI a - nI a / nI b * nI b = nI (a % b) := by
  rw [nI_divn ha h0 hb, nI_mul2, nI_sub2 (Nat.div_mul_le_self a b)]
  congr 1
  have := Nat.div_add_mod a b
  rw [Nat.mul_comm] at this
  omega
theorem zrem_nn {st : Int32} (h : 0 ≤ st) : 0 ≤ st - st / 10 * 10 := by
  obtain ⟨j, hj, rfl⟩ := zn0 (x := st) (Int32.not_lt.mpr h)
  have := nI_rem (a := j) (b := 10) hj (by decide) (by decide)
  rw [show (10 : Int32) = nI 10 from rfl, this]
  exact (nI_leI (a := 0) (by decide) (by omega)).mpr (Nat.zero_le _)
abbrev zThr (ns nt : Nat) (st : Int32) : Prop := 0 ≤ st ∧ st / 10 < nI ns ∧ st - st / 10 * 10 < nI nt
/-- a throw's star and thrower -/
theorem zThr_of {ns nt : Nat} {st : Int32} (hns : ns ≤ 10) (hnt : nt ≤ 4) (hc : zThr ns nt st) : ∃ s t : Nat, s < ns ∧ t < nt ∧ st / 10 = nI s ∧ st - st / 10 * 10 = nI t := by
  obtain ⟨c1, c2, c3⟩ := hc
  have b1 : 0 ≤ st / 10 := by
    rw [Int32.le_iff_toInt_le] at c1 ⊢
    rw [Int32.toInt_div_of_ne_right _ _ (by decide)]
    exact Int.tdiv_nonneg c1 (by decide)
  obtain ⟨s, hs, e1⟩ := zn1 (x := st / 10) (n := ns) (by omega) b1 c2
  have b2 : 0 ≤ st - st / 10 * 10 := zrem_nn c1
  obtain ⟨t, ht, e2⟩ := zn1 (x := st - st / 10 * 10) (n := nt) (by omega) b2 c3
  exact ⟨s, t, hs, ht, e1, e2⟩
theorem sp_X11_odds0 (hd : 4 ≤ d) (hK : zSky I ns nt nh) {st : Int32} (hc : ¬ zThr ns nt st) : zPure g l d m_X11_odds [.ref 0, .int st] I L fs (.int (-1)) := by
  refine zSp_of (lv := [(0, .ref 0), (1, .int st)]) k_X11_odds rfl (Nat.le_of_ble_eq_true rfl) ?_
  refine zAloadN d_X11_odds_0 rfl rfl (q := 1) rfl ?_
  refine zGetR d_X11_odds_1 ff_X11_10 sh_0 (by decide) r_0_0 (q := 4) rfl ?_
  refine zIloadN d_X11_odds_4 rfl rfl (q := 5) rfl ?_
  refine zCallVP d_X11_odds_5 ml_X11_152 k_X9_isThrow ki_X9_isThrow ks_X9_isThrow (sp_X9_isThrow (d := d - 1) (by omega) hK) rfl rfl sh_1 (by decide) rfl (by decide) (Nat.le_of_ble_eq_true rfl) (by decide) (by omega) zns100 (q := 8) rfl ?_
  refine zIf_eq d_X11_odds_8 (tgt := 26) (q := 11) (by decide) rfl (fun h8 => ?_) (fun h => absurd (bi_0.mpr hc) h)
  refine zIconst d_X11_odds_26 (v := -1) ic_m1 (q := 27) rfl ?_
  refine zIret d_X11_odds_27 rfl rfl rfl ?_
  exact zPi rfl
theorem sp_X11_odds (hd : 7 ≤ d) (hK : zSky I ns nt nh) (hw : zLwf h) {pg : Option (List zLine)} (hlw : zLawOk I h pg) {st : Int32} (hc : zThr ns nt st) {s t : Nat} (hs : s < ns) (ht : t < nt) (e1 : st / 10 = nI s) (e2 : st - st / 10 * 10 = nI t) : zSp g l d 100 m_X11_odds [.ref 0, .int st] (zU I L (h, h2, o)) (zX (fun x w => x = zOdds pg (zEn I s t (I 12 0)) ∧ ∃ F G, w = zU (zup (zup I (h + 4) F) (h + 3) G) L (h, h2, o))) := by
  refine zSp_of (lv := [(0, .ref 0), (1, .int st)]) k_X11_odds rfl (Nat.le_of_ble_eq_true rfl) ?_
  refine zAloadN d_X11_odds_0 rfl rfl (q := 1) rfl ?_
  refine zGetR d_X11_odds_1 ff_X11_10 sh_0 (by decide) r_0_0 (q := 4) rfl ?_
  refine zIloadN d_X11_odds_4 rfl rfl (q := 5) rfl ?_
  refine zCallVP d_X11_odds_5 ml_X11_152 k_X9_isThrow ki_X9_isThrow ks_X9_isThrow (sp_X9_isThrow (d := d - 1) (by omega) hK) rfl rfl sh_1 (by decide) rfl (by decide) (Nat.le_of_ble_eq_true rfl) (by decide) (by omega) zns100 (q := 8) rfl ?_
  refine zIf_eq d_X11_odds_8 (tgt := 26) (q := 11) (by decide) rfl (fun h => absurd h (fun q => bi_0.mp q hc)) (fun h8 => ?_)
  refine zAloadN d_X11_odds_11 rfl rfl (q := 12) rfl ?_
  refine zIloadN d_X11_odds_12 rfl rfl (q := 13) rfl ?_
  refine zBipush d_X11_odds_13 (v := 10) bc_10 (q := 15) rfl ?_
  refine zIdiv d_X11_odds_15 (by decide) (q := 16) rfl ?_
  refine zIloadN d_X11_odds_16 rfl rfl (q := 17) rfl ?_
  refine zBipush d_X11_odds_17 (v := 10) bc_10 (q := 19) rfl ?_
  refine zIrem d_X11_odds_19 (by decide) (q := 20) rfl ?_
  rw [e2, e1]
  refine zCallVX d_X11_odds_20 ml_X11_156 k_X11_oddsNow ki_X11_oddsNow ks_X11_oddsNow (sp_X11_oddsNow (d := d - 1) (by omega) hK hw hlw hs ht) rfl rfl sh_0 (by decide) rfl (by decide) (Nat.le_of_ble_eq_true rfl) (by decide) (by omega) zns100 (q := 23) rfl (fun x w' hw' => ?_)
  obtain ⟨hx, F, G, rfl⟩ := hw'
  refine zGoto d_X11_odds_23 (q := 27) (by decide) ?_
  refine zIret d_X11_odds_27 rfl rfl rfl ?_
  exact ⟨_, rfl, hx, F, G, rfl⟩
theorem sp_X11_count (hd : 5 ≤ d) (hK : zSky I ns nt nh) {k : Int32} : zPure g l d m_X11_count [.ref 0, .int k] I L fs (.int (if k = 0 then nI ns else if k = 1 then zbc (zbits (I 7) ns) else if k = 2 then I 29 1 else if k = 3 then I 31 4 else if k = 4 then I 38 2 else if k = 5 then I 38 3 else if k = 6 then nI nt else if k = 7 then nI nh else -1)) := by
  refine zSp_of (lv := [(0, .ref 0), (1, .int k)]) k_X11_count rfl (Nat.le_of_ble_eq_true rfl) ?_
  refine zIloadN d_X11_count_0 rfl rfl (q := 1) rfl ?_
  rcases Decidable.em (k = (0 : Int32)) with s1_0 | s1_0
  · refine zTabAt s1_0 d_X11_count_1 (by decide) (by decide) (off := 47) (by decide) (q := 48) (by decide) ?_
    refine zAloadN d_X11_count_48 rfl rfl (q := 49) rfl ?_
    refine zGetR d_X11_count_49 ff_X11_10 sh_0 (by decide) r_0_0 (q := 52) rfl ?_
    refine zGetI d_X11_count_52 ff_X11_370 sh_1 (by decide) (q := 55) rfl ?_
    refine zIret d_X11_count_55 rfl rfl rfl ?_
    exact zPi (by subst s1_0; exact hK.1.1)
  rcases Decidable.em (k = (1 : Int32)) with s1_1 | s1_1
  · refine zTabAt s1_1 d_X11_count_1 (by decide) (by decide) (off := 55) (by decide) (q := 56) (by decide) ?_
    refine zAloadN d_X11_count_56 rfl rfl (q := 57) rfl ?_
    refine zGetR d_X11_count_57 ff_X11_10 sh_0 (by decide) r_0_0 (q := 60) rfl ?_
    refine zIconst d_X11_count_60 (v := 4) ic_4 (q := 61) rfl ?_
    refine zCallVP d_X11_count_61 ml_X11_228 k_X9_bits ki_X9_bits ks_X9_bits (sp_X9_bits4 (d := d - 1) (by omega) hK) rfl rfl sh_1 (by decide) rfl (by decide) (Nat.le_of_ble_eq_true rfl) (by decide) (by omega) zns100 (q := 64) rfl ?_
    refine zCallSP d_X11_count_64 ml_X11_195 k_J6_bitCount kt_J6_bitCount (sp_J6_bitCount (d := d - 1) (by omega) ) rfl rfl (Nat.le_of_ble_eq_true rfl) (by decide) (by omega) zns100 (q := 67) rfl ?_
    refine zIret d_X11_count_67 rfl rfl rfl ?_
    exact zPi (by subst s1_1; rfl)
  rcases Decidable.em (k = (2 : Int32)) with s1_2 | s1_2
  · refine zTabAt s1_2 d_X11_count_1 (by decide) (by decide) (off := 67) (by decide) (q := 68) (by decide) ?_
    refine zAloadN d_X11_count_68 rfl rfl (q := 69) rfl ?_
    refine zGetR d_X11_count_69 ff_X11_49 sh_0 (by decide) r_0_5 (q := 72) rfl ?_
    refine zGetI d_X11_count_72 ff_X11_373 sh_29 (by decide) (q := 75) rfl ?_
    refine zIret d_X11_count_75 rfl rfl rfl ?_
    exact zPi (by subst s1_2; rfl)
  rcases Decidable.em (k = (3 : Int32)) with s1_3 | s1_3
  · refine zTabAt s1_3 d_X11_count_1 (by decide) (by decide) (off := 75) (by decide) (q := 76) (by decide) ?_
    refine zAloadN d_X11_count_76 rfl rfl (q := 77) rfl ?_
    refine zGetR d_X11_count_77 ff_X11_56 sh_0 (by decide) r_0_6 (q := 80) rfl ?_
    refine zGetI d_X11_count_80 ff_X11_376 sh_31 (by decide) (q := 83) rfl ?_
    refine zIret d_X11_count_83 rfl rfl rfl ?_
    exact zPi (by subst s1_3; rfl)
  rcases Decidable.em (k = (4 : Int32)) with s1_4 | s1_4
  · refine zTabAt s1_4 d_X11_count_1 (by decide) (by decide) (off := 83) (by decide) (q := 84) (by decide) ?_
    refine zAloadN d_X11_count_84 rfl rfl (q := 85) rfl ?_
    refine zGetR d_X11_count_85 ff_X11_70 sh_0 (by decide) r_0_8 (q := 88) rfl ?_
    refine zGetI d_X11_count_88 ff_X11_320 sh_38 (by decide) (q := 91) rfl ?_
    refine zIret d_X11_count_91 rfl rfl rfl ?_
    exact zPi (by subst s1_4; rfl)
  rcases Decidable.em (k = (5 : Int32)) with s1_5 | s1_5
  · refine zTabAt s1_5 d_X11_count_1 (by decide) (by decide) (off := 91) (by decide) (q := 92) (by decide) ?_
    refine zAloadN d_X11_count_92 rfl rfl (q := 93) rfl ?_
    refine zGetR d_X11_count_93 ff_X11_70 sh_0 (by decide) r_0_8 (q := 96) rfl ?_
    refine zGetI d_X11_count_96 ff_X11_377 sh_38 (by decide) (q := 99) rfl ?_
    refine zIret d_X11_count_99 rfl rfl rfl ?_
    exact zPi (by subst s1_5; rfl)
  rcases Decidable.em (k = (6 : Int32)) with s1_6 | s1_6
  · refine zTabAt s1_6 d_X11_count_1 (by decide) (by decide) (off := 99) (by decide) (q := 100) (by decide) ?_
    refine zAloadN d_X11_count_100 rfl rfl (q := 101) rfl ?_
    refine zGetR d_X11_count_101 ff_X11_10 sh_0 (by decide) r_0_0 (q := 104) rfl ?_
    refine zGetI d_X11_count_104 ff_X11_189 sh_1 (by decide) (q := 107) rfl ?_
    refine zIret d_X11_count_107 rfl rfl rfl ?_
    exact zPi (by subst s1_6; exact hK.1.2.1)
  rcases Decidable.em (k = (7 : Int32)) with s1_7 | s1_7
  · refine zTabAt s1_7 d_X11_count_1 (by decide) (by decide) (off := 107) (by decide) (q := 108) (by decide) ?_
    refine zAloadN d_X11_count_108 rfl rfl (q := 109) rfl ?_
    refine zGetR d_X11_count_109 ff_X11_10 sh_0 (by decide) r_0_0 (q := 112) rfl ?_
    refine zGetI d_X11_count_112 ff_X11_380 sh_1 (by decide) (q := 115) rfl ?_
    refine zIret d_X11_count_115 rfl rfl rfl ?_
    exact zPi (by subst s1_7; exact hK.1.2.2)
  refine zTabOut d_X11_count_1 (by have := lv_neT s1_0 (a := 0) (by decide); have := lv_neT s1_1 (a := 1) (by decide); have := lv_neT s1_2 (a := 2) (by decide); have := lv_neT s1_3 (a := 3) (by decide); have := lv_neT s1_4 (a := 4) (by decide); have := lv_neT s1_5 (a := 5) (by decide); have := lv_neT s1_6 (a := 6) (by decide); have := lv_neT s1_7 (a := 7) (by decide); omega) (q := 116) (by decide) ?_
  refine zIconst d_X11_count_116 (v := -1) ic_m1 (q := 117) rfl ?_
  refine zIret d_X11_count_117 rfl rfl rfl ?_
  exact zPi (by rw [if_neg s1_0, if_neg s1_1, if_neg s1_2, if_neg s1_3, if_neg s1_4, if_neg s1_5, if_neg s1_6, if_neg s1_7])
theorem sp_X11_fewest (hd : 7 ≤ d) (hK : zSky I ns nt nh) {w0 : Int32} : zPure g l d m_X11_fewest [.ref 0, .int w0] I L fs (.int (if ¬ (0 ≤ w0 ∧ w0 ≤ 3) then -1 else if zFew I ns nh (if w0 < 2 then 1 else 2) < 0 then -2 else if w0 - w0 / 2 * 2 = 0 then zbc (zFew I ns nh (if w0 < 2 then 1 else 2)) else zFew I ns nh (if w0 < 2 then 1 else 2))) := by
  refine zSp_of (lv := [(0, .ref 0), (1, .int w0)]) k_X11_fewest rfl (Nat.le_of_ble_eq_true rfl) ?_
  refine zIloadN d_X11_fewest_0 rfl rfl (q := 1) rfl ?_
  refine zIf_lt d_X11_fewest_1 (tgt := 9) (q := 4) (by decide) rfl (fun h1 => ?_) (fun h1 => ?_)
  · have hc : ¬ (0 ≤ w0 ∧ w0 ≤ 3) := fun q => Int32.not_lt.mpr q.1 h1
    refine zIconst d_X11_fewest_9 (v := -1) ic_m1 (q := 10) rfl ?_
    refine zIret d_X11_fewest_10 rfl rfl rfl ?_
    exact zPi (by rw [if_pos hc])
  · refine zIloadN d_X11_fewest_4 rfl rfl (q := 5) rfl ?_
    refine zIconst d_X11_fewest_5 (v := 3) ic_3 (q := 6) rfl ?_
    refine zIcmp_le d_X11_fewest_6 (tgt := 11) (q := 9) (by decide) rfl (fun h6 => ?_) (fun h6 => ?_)
    · have hc : ¬ ¬ (0 ≤ w0 ∧ w0 ≤ 3) := fun q => q (And.intro (Int32.not_lt.mp h1) h6)
      refine zIloadN d_X11_fewest_11 rfl rfl (q := 12) rfl ?_
      refine zIconst d_X11_fewest_12 (v := 2) ic_2 (q := 13) rfl ?_
      refine zIcmp_ge d_X11_fewest_13 (tgt := 20) (q := 16) (by decide) rfl (fun h13 => ?_) (fun h13 => ?_)
      · have e2 : (if w0 < 2 then (1 : Int32) else 2) = 2 := if_neg (Int32.not_lt.mpr h13)
        refine zIconst d_X11_fewest_20 (v := 2) ic_2 (q := 21) rfl ?_
        refine zIstoreN d_X11_fewest_21 rfl (by decide) rfl (q := 22) rfl ?_
        refine zAloadN d_X11_fewest_22 rfl rfl (q := 23) rfl ?_
        refine zGetR d_X11_fewest_23 ff_X11_21 sh_0 (by decide) r_0_1 (q := 26) rfl ?_
        refine zIloadN d_X11_fewest_26 rfl rfl (q := 27) rfl ?_
        refine zCallVP d_X11_fewest_27 ml_X11_234 k_X4_fewestFor ki_X4_fewestFor ks_X4_fewestFor (sp_X4_fewestFor (d := d - 1) (by omega) hK) rfl rfl sh_16 (by decide) rfl (by decide) (Nat.le_of_ble_eq_true rfl) (by decide) (by omega) zns100 (q := 30) rfl ?_
        refine zIstoreN d_X11_fewest_30 rfl (by decide) rfl (q := 31) rfl ?_
        refine zIloadN d_X11_fewest_31 rfl rfl (q := 32) rfl ?_
        refine zIf_ge d_X11_fewest_32 (tgt := 38) (q := 35) (by decide) rfl (fun h32 => ?_) (fun h32 => ?_)
        · have h3 := Int32.not_lt.mpr h32
          refine zIloadN d_X11_fewest_38 rfl rfl (q := 39) rfl ?_
          refine zIconst d_X11_fewest_39 (v := 2) ic_2 (q := 40) rfl ?_
          refine zIrem d_X11_fewest_40 (by decide) (q := 41) rfl ?_
          refine zIf_ne d_X11_fewest_41 (tgt := 51) (q := 44) (by decide) rfl (fun h41 => ?_) (fun h41 => ?_)
          · have h4 := h41
            refine zIloadN d_X11_fewest_51 rfl rfl (q := 52) rfl ?_
            refine zIret d_X11_fewest_52 rfl rfl rfl ?_
            exact zPi (by rw [if_neg hc, e2, if_neg h3]; first | exact (if_pos h4).symm | exact (if_neg h4).symm)
          · have h4 := h41
            refine zIloadN d_X11_fewest_44 rfl rfl (q := 45) rfl ?_
            refine zCallSP d_X11_fewest_45 ml_X11_195 k_J6_bitCount kt_J6_bitCount (sp_J6_bitCount (d := d - 1) (by omega) ) rfl rfl (Nat.le_of_ble_eq_true rfl) (by decide) (by omega) zns100 (q := 48) rfl ?_
            refine zGoto d_X11_fewest_48 (q := 52) (by decide) ?_
            refine zIret d_X11_fewest_52 rfl rfl rfl ?_
            exact zPi (by rw [if_neg hc, e2, if_neg h3]; first | exact (if_pos h4).symm | exact (if_neg h4).symm)
        · have h3 := Int32.not_le.mp h32
          refine zBipush d_X11_fewest_35 (v := -2) bc_m2 (q := 37) rfl ?_
          refine zIret d_X11_fewest_37 rfl rfl rfl ?_
          exact zPi (by rw [if_neg hc, e2, if_pos h3])
      · have e2 : (if w0 < 2 then (1 : Int32) else 2) = 1 := if_pos (Int32.not_le.mp h13)
        refine zIconst d_X11_fewest_16 (v := 1) ic_1 (q := 17) rfl ?_
        refine zGoto d_X11_fewest_17 (q := 21) (by decide) ?_
        refine zIstoreN d_X11_fewest_21 rfl (by decide) rfl (q := 22) rfl ?_
        refine zAloadN d_X11_fewest_22 rfl rfl (q := 23) rfl ?_
        refine zGetR d_X11_fewest_23 ff_X11_21 sh_0 (by decide) r_0_1 (q := 26) rfl ?_
        refine zIloadN d_X11_fewest_26 rfl rfl (q := 27) rfl ?_
        refine zCallVP d_X11_fewest_27 ml_X11_234 k_X4_fewestFor ki_X4_fewestFor ks_X4_fewestFor (sp_X4_fewestFor (d := d - 1) (by omega) hK) rfl rfl sh_16 (by decide) rfl (by decide) (Nat.le_of_ble_eq_true rfl) (by decide) (by omega) zns100 (q := 30) rfl ?_
        refine zIstoreN d_X11_fewest_30 rfl (by decide) rfl (q := 31) rfl ?_
        refine zIloadN d_X11_fewest_31 rfl rfl (q := 32) rfl ?_
        refine zIf_ge d_X11_fewest_32 (tgt := 38) (q := 35) (by decide) rfl (fun h32 => ?_) (fun h32 => ?_)
        · have h3 := Int32.not_lt.mpr h32
          refine zIloadN d_X11_fewest_38 rfl rfl (q := 39) rfl ?_
          refine zIconst d_X11_fewest_39 (v := 2) ic_2 (q := 40) rfl ?_
          refine zIrem d_X11_fewest_40 (by decide) (q := 41) rfl ?_
          refine zIf_ne d_X11_fewest_41 (tgt := 51) (q := 44) (by decide) rfl (fun h41 => ?_) (fun h41 => ?_)
          · have h4 := h41
            refine zIloadN d_X11_fewest_51 rfl rfl (q := 52) rfl ?_
            refine zIret d_X11_fewest_52 rfl rfl rfl ?_
            exact zPi (by rw [if_neg hc, e2, if_neg h3]; first | exact (if_pos h4).symm | exact (if_neg h4).symm)
          · have h4 := h41
            refine zIloadN d_X11_fewest_44 rfl rfl (q := 45) rfl ?_
            refine zCallSP d_X11_fewest_45 ml_X11_195 k_J6_bitCount kt_J6_bitCount (sp_J6_bitCount (d := d - 1) (by omega) ) rfl rfl (Nat.le_of_ble_eq_true rfl) (by decide) (by omega) zns100 (q := 48) rfl ?_
            refine zGoto d_X11_fewest_48 (q := 52) (by decide) ?_
            refine zIret d_X11_fewest_52 rfl rfl rfl ?_
            exact zPi (by rw [if_neg hc, e2, if_neg h3]; first | exact (if_pos h4).symm | exact (if_neg h4).symm)
        · have h3 := Int32.not_le.mp h32
          refine zBipush d_X11_fewest_35 (v := -2) bc_m2 (q := 37) rfl ?_
          refine zIret d_X11_fewest_37 rfl rfl rfl ?_
          exact zPi (by rw [if_neg hc, e2, if_pos h3])
    · have hc : ¬ (0 ≤ w0 ∧ w0 ≤ 3) := fun q => h6 q.2
      refine zIconst d_X11_fewest_9 (v := -1) ic_m1 (q := 10) rfl ?_
      refine zIret d_X11_fewest_10 rfl rfl rfl ?_
      exact zPi (by rw [if_pos hc])
theorem sp_X11_home0 {i w0 : Int32} (hd : 2 ≤ d) (hi : ¬ (0 ≤ i ∧ i < 6)) : zPure g l d m_X11_home [.ref 0, .int i, .int w0] I L fs (.int (-1)) := by
  refine zSp_of (lv := [(0, .ref 0), (1, .int i), (2, .int w0)]) k_X11_home rfl (Nat.le_of_ble_eq_true rfl) ?_
  refine zAloadN d_X11_home_0 rfl rfl (q := 1) rfl ?_
  refine zIloadN d_X11_home_1 rfl rfl (q := 2) rfl ?_
  refine zCallVP d_X11_home_2 ml_X11_95 k_X11_shelfAt ki_X11_shelfAt ks_X11_shelfAt (sp_shelf0 (d := d - 1) (by omega) hi) rfl rfl sh_0 (by decide) rfl (by decide) (Nat.le_of_ble_eq_true rfl) (by decide) (by omega) zns100 (q := 5) rfl ?_
  refine zAstoreNN d_X11_home_5 rfl (by decide) rfl (q := 6) rfl ?_
  refine zAloadNN d_X11_home_6 rfl rfl (q := 7) rfl ?_
  refine zIfnull0 d_X11_home_7 (q := 19) (by decide) ?_
  refine zIconst d_X11_home_19 (v := -1) ic_m1 (q := 20) rfl ?_
  refine zIret d_X11_home_20 rfl rfl rfl ?_
  exact zPi rfl
theorem sp_X11_home {k m : Nat} {w0 : Int32} (hd : 6 ≤ d) (hK : zSky I ns nt nh) (hk : k < 6) (hm : I (42 + 2 * k) 2 = nI m) (hm2 : m ≤ 60) : zSp g l d 100 m_X11_home [.ref 0, .int (nI k), .int w0] (zU I L fs) (zX (fun x w =>
    (¬ (0 ≤ w0 ∧ w0 ≤ 1) ∧ x = -1 ∧ w = zU I L fs) ∨ ((0 ≤ w0 ∧ w0 ≤ 1) ∧ ¬ I (42 + 2 * k) 1 = 0 ∧ x = (if I (42 + 2 * k) 1 = -1 then -11 else -12) ∧ w = zU I L fs) ∨
    ((0 ≤ w0 ∧ w0 ≤ 1) ∧ I (42 + 2 * k) 1 = 0 ∧ ∃ X Y, (∀ i, i < zHomN I L ns nt nh (42 + 2 * k) → X i = zTold I L (42 + 2 * k) (nI (2 * i)) ∧ Y i = zTold I L (42 + 2 * k) (nI (2 * i + 1))) ∧
      ∃ J, J = zWrU (zup (zup (zup I 17 X) 18 Y) 16 (zup (I 16) 3 (nI (zHomN I L ns nt nh (42 + 2 * k))))) (zWr (zup (zup (zup I 17 X) 18 Y) 16 (zup (I 16) 3 (nI (zHomN I L ns nt nh (42 + 2 * k))))) ns nh X Y (zHomN I L ns nt nh (42 + 2 * k))) ∧ w = zU J L fs ∧
      x = (if w0 = 0 then J 16 4 else if J 16 4 = 0 then -2 else J 16 5)))) := by
  have hh := zshf hk
  have hn12 : zHomN I L ns nt nh (42 + 2 * k) ≤ 12 := (zrun_spec (zHomB I L ns nt nh (42 + 2 * k)) 12 0 (Nat.zero_le _)).2.1
  refine zSp_of (lv := [(0, .ref 0), (1, .int (nI k)), (2, .int w0)]) k_X11_home rfl (Nat.le_of_ble_eq_true rfl) ?_
  refine zAloadN d_X11_home_0 rfl rfl (q := 1) rfl ?_
  refine zIloadN d_X11_home_1 rfl rfl (q := 2) rfl ?_
  refine zCallVP d_X11_home_2 ml_X11_95 k_X11_shelfAt ki_X11_shelfAt ks_X11_shelfAt (sp_shelf (d := d - 1) (by omega) hk) rfl rfl sh_0 (by decide) rfl (by decide) (Nat.le_of_ble_eq_true rfl) (by decide) (by omega) zns100 (q := 5) rfl ?_
  refine zAstoreN d_X11_home_5 rfl (by decide) rfl (q := 6) rfl ?_
  refine zAloadN d_X11_home_6 rfl rfl (q := 7) rfl ?_
  refine zIfnull d_X11_home_7 (q := 10) rfl ?_
  refine zIloadN d_X11_home_10 rfl rfl (q := 11) rfl ?_
  refine zIf_lt d_X11_home_11 (tgt := 19) (q := 14) (by decide) rfl (fun h11 => ?_) (fun h11 => ?_)
  · have hc : ¬ (0 ≤ w0 ∧ w0 ≤ 1) := fun q => Int32.not_lt.mpr q.1 h11
    refine zIconst d_X11_home_19 (v := -1) ic_m1 (q := 20) rfl ?_
    refine zIret d_X11_home_20 rfl rfl rfl ?_
    exact ⟨_, rfl, Or.inl ⟨hc, rfl, rfl⟩⟩
  · refine zIloadN d_X11_home_14 rfl rfl (q := 15) rfl ?_
    refine zIconst d_X11_home_15 (v := 1) ic_1 (q := 16) rfl ?_
    refine zIcmp_le d_X11_home_16 (tgt := 21) (q := 19) (by decide) rfl (fun h16 => ?_) (fun h16 => ?_)
    · have hc : 0 ≤ w0 ∧ w0 ≤ 1 := And.intro (Int32.not_lt.mp h11) h16
      refine zAloadN d_X11_home_21 rfl rfl (q := 22) rfl ?_
      refine zCallVP d_X11_home_22 ml_X11_103 k_X8_isBytes ki_X8_isBytes ks_X8_isBytes (sp_X8_isBytes (d := d - 1) (by omega) hh) rfl rfl hh.1 (by decide) rfl (Nat.lt_of_succ_lt hh.2.2.1) (Nat.le_of_ble_eq_true rfl) (by decide) (by omega) zns100 (q := 25) rfl ?_
      refine zIf_ne d_X11_home_25 (tgt := 33) (q := 28) (by decide) rfl (fun h25 => ?_) (fun h25 => ?_)
      · have hb : I (42 + 2 * k) 1 = 0 := bi_n0.mp h25
        refine zAloadN d_X11_home_33 rfl rfl (q := 34) rfl ?_
        refine zGetR d_X11_home_34 ff_X11_21 sh_0 (by decide) r_0_1 (q := 37) rfl ?_
        refine zAloadN d_X11_home_37 rfl rfl (q := 38) rfl ?_
        refine zCallVV d_X11_home_38 ml_X11_237 k_X4_readHomes ki_X4_readHomes ks_X4_readHomes (sp_X4_readHomes (d := d - 1) (by omega) hK hh (by omega) hm hm2) rfl rfl sh_16 (by decide) rfl (by decide) (Nat.le_of_ble_eq_true rfl) (by decide) (by omega) zns100 (q := 41) rfl (fun w' hw' => ?_)
        obtain ⟨X, Y, rfl, hXY⟩ := hw'
        refine zAloadN d_X11_home_41 rfl rfl (q := 42) rfl ?_
        refine zGetR d_X11_home_42 ff_X11_21 sh_0 (by decide) r_0_1 (q := 45) rfl ?_
        refine zCallVV d_X11_home_45 ml_X11_241 k_X4_findWrong ki_X4_findWrong ks_X4_findWrong (sp_X4_findWrong (d := d - 1) (ns := ns) (nt := nt) (nh := nh) (n := zHomN I L ns nt nh (42 + 2 * k)) (by omega) (zSky_up (zSky_up (zSky_up hK (by decide)) (by decide)) (by decide)) rfl hn12) rfl rfl sh_16 (by decide) rfl (by decide) (Nat.le_of_ble_eq_true rfl) (by decide) (by omega) zns100 (q := 48) rfl (fun w' hw' => ?_)
        subst hw'
        obtain ⟨J, hJ⟩ : ∃ J, J = zWrU (zup (zup (zup I 17 X) 18 Y) 16 (zup (I 16) 3 (nI (zHomN I L ns nt nh (42 + 2 * k))))) (zWr (zup (zup (zup I 17 X) 18 Y) 16 (zup (I 16) 3 (nI (zHomN I L ns nt nh (42 + 2 * k))))) ns nh X Y (zHomN I L ns nt nh (42 + 2 * k))) := ⟨_, rfl⟩
        refine zCastI hJ ?_
        refine zIloadN d_X11_home_48 rfl rfl (q := 49) rfl ?_
        refine zIf_ne d_X11_home_49 (tgt := 60) (q := 52) (by decide) rfl (fun h49 => ?_) (fun h49 => ?_)
        · have q0 : ¬ w0 = 0 := h49
          refine zAloadN d_X11_home_60 rfl rfl (q := 61) rfl ?_
          refine zGetR d_X11_home_61 ff_X11_21 sh_0 (by decide) r_0_1 (q := 64) rfl ?_
          refine zGetI d_X11_home_64 ff_X11_244 sh_16 (by decide) (q := 67) rfl ?_
          refine zIf_ne d_X11_home_67 (tgt := 75) (q := 70) (by decide) rfl (fun h67 => ?_) (fun h67 => ?_)
          · have q1 : ¬ J 16 4 = 0 := h67
            refine zAloadN d_X11_home_75 rfl rfl (q := 76) rfl ?_
            refine zGetR d_X11_home_76 ff_X11_21 sh_0 (by decide) r_0_1 (q := 79) rfl ?_
            refine zGetI d_X11_home_79 ff_X11_247 sh_16 (by decide) (q := 82) rfl ?_
            refine zIret d_X11_home_82 rfl rfl rfl ?_
            exact ⟨_, rfl, Or.inr (Or.inr ⟨hc, hb, X, Y, hXY, J, hJ, rfl, by rw [if_neg q0]; first | exact (if_pos q1).symm | exact (if_neg q1).symm⟩)⟩
          · have q1 : J 16 4 = 0 := by simpa using h67
            refine zBipush d_X11_home_70 (v := -2) bc_m2 (q := 72) rfl ?_
            refine zGoto d_X11_home_72 (q := 82) (by decide) ?_
            refine zIret d_X11_home_82 rfl rfl rfl ?_
            exact ⟨_, rfl, Or.inr (Or.inr ⟨hc, hb, X, Y, hXY, J, hJ, rfl, by rw [if_neg q0]; first | exact (if_pos q1).symm | exact (if_neg q1).symm⟩)⟩
        · have q0 : w0 = 0 := by simpa using h49
          refine zAloadN d_X11_home_52 rfl rfl (q := 53) rfl ?_
          refine zGetR d_X11_home_53 ff_X11_21 sh_0 (by decide) r_0_1 (q := 56) rfl ?_
          refine zGetI d_X11_home_56 ff_X11_244 sh_16 (by decide) (q := 59) rfl ?_
          refine zIret d_X11_home_59 rfl rfl rfl ?_
          exact ⟨_, rfl, Or.inr (Or.inr ⟨hc, hb, X, Y, hXY, J, hJ, rfl, by rw [if_pos q0]⟩)⟩
      · have hb : ¬ I (42 + 2 * k) 1 = 0 := bi_0.mp (by simpa using h25)
        refine zAloadN d_X11_home_28 rfl rfl (q := 29) rfl ?_
        refine zCallVP d_X11_home_29 ml_X11_159 k_X8_refusal ki_X8_refusal ks_X8_refusal (sp_X8_refusal (d := d - 1) (by omega) hh) rfl rfl hh.1 (by decide) rfl (Nat.lt_of_succ_lt hh.2.2.1) (Nat.le_of_ble_eq_true rfl) (by decide) (by omega) zns100 (q := 32) rfl ?_
        refine zIret d_X11_home_32 rfl rfl rfl ?_
        exact ⟨_, rfl, Or.inr (Or.inl ⟨hc, hb, rfl, rfl⟩)⟩
    · have hc : ¬ (0 ≤ w0 ∧ w0 ≤ 1) := fun q => h16 q.2
      refine zIconst d_X11_home_19 (v := -1) ic_m1 (q := 20) rfl ?_
      refine zIret d_X11_home_20 rfl rfl rfl ?_
      exact ⟨_, rfl, Or.inl ⟨hc, rfl, rfl⟩⟩
theorem sp_X11_pattern0 {i w0 : Int32} (hd : 2 ≤ d) (hi : ¬ (0 ≤ i ∧ i < 6)) : zPure g l d m_X11_pattern [.ref 0, .int i, .int w0] I L fs (.int (-1)) := by
  refine zSp_of (lv := [(0, .ref 0), (1, .int i), (2, .int w0)]) k_X11_pattern rfl (Nat.le_of_ble_eq_true rfl) ?_
  refine zAloadN d_X11_pattern_0 rfl rfl (q := 1) rfl ?_
  refine zIloadN d_X11_pattern_1 rfl rfl (q := 2) rfl ?_
  refine zCallVP d_X11_pattern_2 ml_X11_95 k_X11_shelfAt ki_X11_shelfAt ks_X11_shelfAt (sp_shelf0 (d := d - 1) (by omega) hi) rfl rfl sh_0 (by decide) rfl (by decide) (Nat.le_of_ble_eq_true rfl) (by decide) (by omega) zns100 (q := 5) rfl ?_
  refine zAstoreNN d_X11_pattern_5 rfl (by decide) rfl (q := 6) rfl ?_
  refine zAloadNN d_X11_pattern_6 rfl rfl (q := 7) rfl ?_
  refine zIfnull0 d_X11_pattern_7 (q := 19) (by decide) ?_
  refine zIconst d_X11_pattern_19 (v := -1) ic_m1 (q := 20) rfl ?_
  refine zIret d_X11_pattern_20 rfl rfl rfl ?_
  exact zPi rfl
theorem sp_X11_pattern {k m : Nat} {w0 : Int32} (hd : 4 ≤ d) (hK : zSky I ns nt nh) (hk : k < 6) (hm : I (42 + 2 * k) 2 = nI m) (hm2 : m ≤ 60) : zSp g l d 100 m_X11_pattern [.ref 0, .int (nI k), .int w0] (zU I L fs) (zX (fun x w =>
    (¬ (0 ≤ w0 ∧ w0 ≤ 3) ∧ x = -1 ∧ w = zU I L fs) ∨ ((0 ≤ w0 ∧ w0 ≤ 3) ∧ ¬ I (42 + 2 * k) 1 = 0 ∧ x = (if I (42 + 2 * k) 1 = -1 then -11 else -12) ∧ w = zU I L fs) ∨
    ((0 ≤ w0 ∧ w0 ≤ 3) ∧ I (42 + 2 * k) 1 = 0 ∧ ∃ X Y, (∀ i, i < zPatN I L (42 + 2 * k) → X i = zPatX I L (42 + 2 * k) (if w0 < 2 then 0 else 1) i ∧ Y i = zPatY I L (42 + 2 * k) i) ∧
      ∃ J, J = zMvU (zup (zup (zup I 20 X) 21 Y) 19 (zup (I 19) 3 (nI (zPatN I L (42 + 2 * k))))) (zMv (fun x y => decide (zFit (zup (zup (zup I 20 X) 21 Y) 19 (zup (I 19) 3 (nI (zPatN I L (42 + 2 * k))))) ns X Y (zPatN I L (42 + 2 * k)) x y)) 0) ∧ w = zU J L fs ∧
      x = (if w0 - w0 / 2 * 2 = 0 then J 19 4 else if J 19 4 = 0 then -2 else J 19 5)))) := by
  have hh := zshf hk
  have hn8 : zPatN I L (42 + 2 * k) ≤ 8 := (zrun_spec (zCell I L (42 + 2 * k)) 8 0 (Nat.zero_le _)).2.1
  refine zSp_of (lv := [(0, .ref 0), (1, .int (nI k)), (2, .int w0)]) k_X11_pattern rfl (Nat.le_of_ble_eq_true rfl) ?_
  refine zAloadN d_X11_pattern_0 rfl rfl (q := 1) rfl ?_
  refine zIloadN d_X11_pattern_1 rfl rfl (q := 2) rfl ?_
  refine zCallVP d_X11_pattern_2 ml_X11_95 k_X11_shelfAt ki_X11_shelfAt ks_X11_shelfAt (sp_shelf (d := d - 1) (by omega) hk) rfl rfl sh_0 (by decide) rfl (by decide) (Nat.le_of_ble_eq_true rfl) (by decide) (by omega) zns100 (q := 5) rfl ?_
  refine zAstoreN d_X11_pattern_5 rfl (by decide) rfl (q := 6) rfl ?_
  refine zAloadN d_X11_pattern_6 rfl rfl (q := 7) rfl ?_
  refine zIfnull d_X11_pattern_7 (q := 10) rfl ?_
  refine zIloadN d_X11_pattern_10 rfl rfl (q := 11) rfl ?_
  refine zIf_lt d_X11_pattern_11 (tgt := 19) (q := 14) (by decide) rfl (fun h11 => ?_) (fun h11 => ?_)
  · have hc : ¬ (0 ≤ w0 ∧ w0 ≤ 3) := fun q => Int32.not_lt.mpr q.1 h11
    refine zIconst d_X11_pattern_19 (v := -1) ic_m1 (q := 20) rfl ?_
    refine zIret d_X11_pattern_20 rfl rfl rfl ?_
    exact ⟨_, rfl, Or.inl ⟨hc, rfl, rfl⟩⟩
  · refine zIloadN d_X11_pattern_14 rfl rfl (q := 15) rfl ?_
    refine zIconst d_X11_pattern_15 (v := 3) ic_3 (q := 16) rfl ?_
    refine zIcmp_le d_X11_pattern_16 (tgt := 21) (q := 19) (by decide) rfl (fun h16 => ?_) (fun h16 => ?_)
    · have hc : 0 ≤ w0 ∧ w0 ≤ 3 := And.intro (Int32.not_lt.mp h11) h16
      refine zAloadN d_X11_pattern_21 rfl rfl (q := 22) rfl ?_
      refine zCallVP d_X11_pattern_22 ml_X11_103 k_X8_isBytes ki_X8_isBytes ks_X8_isBytes (sp_X8_isBytes (d := d - 1) (by omega) hh) rfl rfl hh.1 (by decide) rfl (Nat.lt_of_succ_lt hh.2.2.1) (Nat.le_of_ble_eq_true rfl) (by decide) (by omega) zns100 (q := 25) rfl ?_
      refine zIf_ne d_X11_pattern_25 (tgt := 33) (q := 28) (by decide) rfl (fun h25 => ?_) (fun h25 => ?_)
      · have hb : I (42 + 2 * k) 1 = 0 := bi_n0.mp h25
        refine zAloadN d_X11_pattern_33 rfl rfl (q := 34) rfl ?_
        refine zGetR d_X11_pattern_34 ff_X11_28 sh_0 (by decide) r_0_2 (q := 37) rfl ?_
        refine zAloadN d_X11_pattern_37 rfl rfl (q := 38) rfl ?_
        refine zIloadN d_X11_pattern_38 rfl rfl (q := 39) rfl ?_
        refine zIconst d_X11_pattern_39 (v := 2) ic_2 (q := 40) rfl ?_
        refine zIcmp_lt d_X11_pattern_40 (tgt := 47) (q := 43) (by decide) rfl (fun h40 => ?_) (fun h40 => ?_)
        · have em : (if w0 < 2 then (0 : Int32) else 1) = 0 := if_pos h40
          refine zIconst d_X11_pattern_47 (v := 0) ic_0 (q := 48) rfl ?_
          refine zCallVV d_X11_pattern_48 ml_X11_250 k_X2_read ki_X2_read ks_X2_read (sp_X2_read (d := d - 1) (by omega) hh (by omega) hm hm2) rfl rfl sh_19 (by decide) rfl (by decide) (Nat.le_of_ble_eq_true rfl) (by decide) (by omega) zns100 (q := 51) rfl (fun w' hw' => ?_)
          obtain ⟨X, Y, rfl, hXY⟩ := hw'
          refine zAloadN d_X11_pattern_51 rfl rfl (q := 52) rfl ?_
          refine zGetR d_X11_pattern_52 ff_X11_28 sh_0 (by decide) r_0_2 (q := 55) rfl ?_
          refine zCallVV d_X11_pattern_55 ml_X11_253 k_X2_findMoves ki_X2_findMoves ks_X2_findMoves (sp_X2_findMoves (d := d - 1) (ns := ns) (nt := nt) (nh := nh) (n := zPatN I L (42 + 2 * k)) (by omega) (zSky_up (zSky_up (zSky_up hK (by decide)) (by decide)) (by decide)) rfl hn8) rfl rfl sh_19 (by decide) rfl (by decide) (Nat.le_of_ble_eq_true rfl) (by decide) (by omega) zns100 (q := 58) rfl (fun w' hw' => ?_)
          subst hw'
          obtain ⟨J, hJ⟩ : ∃ J, J = zMvU (zup (zup (zup I 20 X) 21 Y) 19 (zup (I 19) 3 (nI (zPatN I L (42 + 2 * k))))) (zMv (fun x y => decide (zFit (zup (zup (zup I 20 X) 21 Y) 19 (zup (I 19) 3 (nI (zPatN I L (42 + 2 * k))))) ns X Y (zPatN I L (42 + 2 * k)) x y)) 0) := ⟨_, rfl⟩
          refine zCastI hJ ?_
          rw [← em] at hXY
          refine zIloadN d_X11_pattern_58 rfl rfl (q := 59) rfl ?_
          refine zIconst d_X11_pattern_59 (v := 2) ic_2 (q := 60) rfl ?_
          refine zIrem d_X11_pattern_60 (by decide) (q := 61) rfl ?_
          refine zIf_ne d_X11_pattern_61 (tgt := 72) (q := 64) (by decide) rfl (fun h61 => ?_) (fun h61 => ?_)
          · have q0 : ¬ w0 - w0 / 2 * 2 = 0 := h61
            refine zAloadN d_X11_pattern_72 rfl rfl (q := 73) rfl ?_
            refine zGetR d_X11_pattern_73 ff_X11_28 sh_0 (by decide) r_0_2 (q := 76) rfl ?_
            refine zGetI d_X11_pattern_76 ff_X11_256 sh_19 (by decide) (q := 79) rfl ?_
            refine zIf_ne d_X11_pattern_79 (tgt := 87) (q := 82) (by decide) rfl (fun h79 => ?_) (fun h79 => ?_)
            · have q1 : ¬ J 19 4 = 0 := h79
              refine zAloadN d_X11_pattern_87 rfl rfl (q := 88) rfl ?_
              refine zGetR d_X11_pattern_88 ff_X11_28 sh_0 (by decide) r_0_2 (q := 91) rfl ?_
              refine zGetI d_X11_pattern_91 ff_X11_259 sh_19 (by decide) (q := 94) rfl ?_
              refine zIret d_X11_pattern_94 rfl rfl rfl ?_
              exact ⟨_, rfl, Or.inr (Or.inr ⟨hc, hb, X, Y, hXY, J, hJ, rfl, by rw [if_neg q0]; first | exact (if_pos q1).symm | exact (if_neg q1).symm⟩)⟩
            · have q1 : J 19 4 = 0 := by simpa using h79
              refine zBipush d_X11_pattern_82 (v := -2) bc_m2 (q := 84) rfl ?_
              refine zGoto d_X11_pattern_84 (q := 94) (by decide) ?_
              refine zIret d_X11_pattern_94 rfl rfl rfl ?_
              exact ⟨_, rfl, Or.inr (Or.inr ⟨hc, hb, X, Y, hXY, J, hJ, rfl, by rw [if_neg q0]; first | exact (if_pos q1).symm | exact (if_neg q1).symm⟩)⟩
          · have q0 : w0 - w0 / 2 * 2 = 0 := by simpa using h61
            refine zAloadN d_X11_pattern_64 rfl rfl (q := 65) rfl ?_
            refine zGetR d_X11_pattern_65 ff_X11_28 sh_0 (by decide) r_0_2 (q := 68) rfl ?_
            refine zGetI d_X11_pattern_68 ff_X11_256 sh_19 (by decide) (q := 71) rfl ?_
            refine zIret d_X11_pattern_71 rfl rfl rfl ?_
            exact ⟨_, rfl, Or.inr (Or.inr ⟨hc, hb, X, Y, hXY, J, hJ, rfl, by rw [if_pos q0]⟩)⟩
        · have em : (if w0 < 2 then (0 : Int32) else 1) = 1 := if_neg h40
          refine zIconst d_X11_pattern_43 (v := 1) ic_1 (q := 44) rfl ?_
          refine zGoto d_X11_pattern_44 (q := 48) (by decide) ?_
          refine zCallVV d_X11_pattern_48 ml_X11_250 k_X2_read ki_X2_read ks_X2_read (sp_X2_read (d := d - 1) (by omega) hh (by omega) hm hm2) rfl rfl sh_19 (by decide) rfl (by decide) (Nat.le_of_ble_eq_true rfl) (by decide) (by omega) zns100 (q := 51) rfl (fun w' hw' => ?_)
          obtain ⟨X, Y, rfl, hXY⟩ := hw'
          refine zAloadN d_X11_pattern_51 rfl rfl (q := 52) rfl ?_
          refine zGetR d_X11_pattern_52 ff_X11_28 sh_0 (by decide) r_0_2 (q := 55) rfl ?_
          refine zCallVV d_X11_pattern_55 ml_X11_253 k_X2_findMoves ki_X2_findMoves ks_X2_findMoves (sp_X2_findMoves (d := d - 1) (ns := ns) (nt := nt) (nh := nh) (n := zPatN I L (42 + 2 * k)) (by omega) (zSky_up (zSky_up (zSky_up hK (by decide)) (by decide)) (by decide)) rfl hn8) rfl rfl sh_19 (by decide) rfl (by decide) (Nat.le_of_ble_eq_true rfl) (by decide) (by omega) zns100 (q := 58) rfl (fun w' hw' => ?_)
          subst hw'
          obtain ⟨J, hJ⟩ : ∃ J, J = zMvU (zup (zup (zup I 20 X) 21 Y) 19 (zup (I 19) 3 (nI (zPatN I L (42 + 2 * k))))) (zMv (fun x y => decide (zFit (zup (zup (zup I 20 X) 21 Y) 19 (zup (I 19) 3 (nI (zPatN I L (42 + 2 * k))))) ns X Y (zPatN I L (42 + 2 * k)) x y)) 0) := ⟨_, rfl⟩
          refine zCastI hJ ?_
          rw [← em] at hXY
          refine zIloadN d_X11_pattern_58 rfl rfl (q := 59) rfl ?_
          refine zIconst d_X11_pattern_59 (v := 2) ic_2 (q := 60) rfl ?_
          refine zIrem d_X11_pattern_60 (by decide) (q := 61) rfl ?_
          refine zIf_ne d_X11_pattern_61 (tgt := 72) (q := 64) (by decide) rfl (fun h61 => ?_) (fun h61 => ?_)
          · have q0 : ¬ w0 - w0 / 2 * 2 = 0 := h61
            refine zAloadN d_X11_pattern_72 rfl rfl (q := 73) rfl ?_
            refine zGetR d_X11_pattern_73 ff_X11_28 sh_0 (by decide) r_0_2 (q := 76) rfl ?_
            refine zGetI d_X11_pattern_76 ff_X11_256 sh_19 (by decide) (q := 79) rfl ?_
            refine zIf_ne d_X11_pattern_79 (tgt := 87) (q := 82) (by decide) rfl (fun h79 => ?_) (fun h79 => ?_)
            · have q1 : ¬ J 19 4 = 0 := h79
              refine zAloadN d_X11_pattern_87 rfl rfl (q := 88) rfl ?_
              refine zGetR d_X11_pattern_88 ff_X11_28 sh_0 (by decide) r_0_2 (q := 91) rfl ?_
              refine zGetI d_X11_pattern_91 ff_X11_259 sh_19 (by decide) (q := 94) rfl ?_
              refine zIret d_X11_pattern_94 rfl rfl rfl ?_
              exact ⟨_, rfl, Or.inr (Or.inr ⟨hc, hb, X, Y, hXY, J, hJ, rfl, by rw [if_neg q0]; first | exact (if_pos q1).symm | exact (if_neg q1).symm⟩)⟩
            · have q1 : J 19 4 = 0 := by simpa using h79
              refine zBipush d_X11_pattern_82 (v := -2) bc_m2 (q := 84) rfl ?_
              refine zGoto d_X11_pattern_84 (q := 94) (by decide) ?_
              refine zIret d_X11_pattern_94 rfl rfl rfl ?_
              exact ⟨_, rfl, Or.inr (Or.inr ⟨hc, hb, X, Y, hXY, J, hJ, rfl, by rw [if_neg q0]; first | exact (if_pos q1).symm | exact (if_neg q1).symm⟩)⟩
          · have q0 : w0 - w0 / 2 * 2 = 0 := by simpa using h61
            refine zAloadN d_X11_pattern_64 rfl rfl (q := 65) rfl ?_
            refine zGetR d_X11_pattern_65 ff_X11_28 sh_0 (by decide) r_0_2 (q := 68) rfl ?_
            refine zGetI d_X11_pattern_68 ff_X11_256 sh_19 (by decide) (q := 71) rfl ?_
            refine zIret d_X11_pattern_71 rfl rfl rfl ?_
            exact ⟨_, rfl, Or.inr (Or.inr ⟨hc, hb, X, Y, hXY, J, hJ, rfl, by rw [if_pos q0]⟩)⟩
      · have hb : ¬ I (42 + 2 * k) 1 = 0 := bi_0.mp (by simpa using h25)
        refine zAloadN d_X11_pattern_28 rfl rfl (q := 29) rfl ?_
        refine zCallVP d_X11_pattern_29 ml_X11_159 k_X8_refusal ki_X8_refusal ks_X8_refusal (sp_X8_refusal (d := d - 1) (by omega) hh) rfl rfl hh.1 (by decide) rfl (Nat.lt_of_succ_lt hh.2.2.1) (Nat.le_of_ble_eq_true rfl) (by decide) (by omega) zns100 (q := 32) rfl ?_
        refine zIret d_X11_pattern_32 rfl rfl rfl ?_
        exact ⟨_, rfl, Or.inr (Or.inl ⟨hc, hb, rfl, rfl⟩)⟩
    · have hc : ¬ (0 ≤ w0 ∧ w0 ≤ 3) := fun q => h16 q.2
      refine zIconst d_X11_pattern_19 (v := -1) ic_m1 (q := 20) rfl ?_
      refine zIret d_X11_pattern_20 rfl rfl rfl ?_
      exact ⟨_, rfl, Or.inl ⟨hc, rfl, rfl⟩⟩
end S33

