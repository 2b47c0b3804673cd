theorem d_X1_add_0 : decode (zmc m_X1_add) 0 = .ok (.aload_n 0, 1) := by decide +kernel
theorem d_X1_add_1 : decode (zmc m_X1_add) 1 = .ok (.getfield 24, 3) := by decide +kernel
theorem d_X1_add_4 : decode (zmc m_X1_add) 4 = .ok (.bipush 40, 2) := by decide +kernel
theorem d_X1_add_6 : decode (zmc m_X1_add) 6 = .ok (.if_icmp .lt 7, 3) := by decide +kernel
theorem d_X1_add_9 : decode (zmc m_X1_add) 9 = .ok (.aload_n 0, 1) := by decide +kernel
theorem d_X1_add_10 : decode (zmc m_X1_add) 10 = .ok (.invokevirtual 28, 3) := by decide +kernel
theorem d_X1_add_13 : decode (zmc m_X1_add) 13 = .ok (.aload_n 0, 1) := by decide +kernel
theorem d_X1_add_14 : decode (zmc m_X1_add) 14 = .ok (.getfield 11, 3) := by decide +kernel
theorem d_X1_add_17 : decode (zmc m_X1_add) 17 = .ok (.aload_n 0, 1) := by decide +kernel
theorem d_X1_add_18 : decode (zmc m_X1_add) 18 = .ok (.getfield 24, 3) := by decide +kernel
theorem d_X1_add_21 : decode (zmc m_X1_add) 21 = .ok (.iload_n 1, 1) := by decide +kernel
theorem d_X1_add_22 : decode (zmc m_X1_add) 22 = .ok (.iastore, 1) := by decide +kernel
theorem d_X1_add_23 : decode (zmc m_X1_add) 23 = .ok (.aload_n 0, 1) := by decide +kernel
theorem d_X1_add_24 : decode (zmc m_X1_add) 24 = .ok (.getfield 15, 3) := by decide +kernel
theorem d_X1_add_27 : decode (zmc m_X1_add) 27 = .ok (.aload_n 0, 1) := by decide +kernel
theorem d_X1_add_28 : decode (zmc m_X1_add) 28 = .ok (.getfield 24, 3) := by decide +kernel
theorem d_X1_add_31 : decode (zmc m_X1_add) 31 = .ok (.iload_n 2, 1) := by decide +kernel
theorem d_X1_add_32 : decode (zmc m_X1_add) 32 = .ok (.iastore, 1) := by decide +kernel
theorem d_X1_add_33 : decode (zmc m_X1_add) 33 = .ok (.aload_n 0, 1) := by decide +kernel
theorem d_X1_add_34 : decode (zmc m_X1_add) 34 = .ok (.getfield 18, 3) := by decide +kernel
theorem d_X1_add_37 : decode (zmc m_X1_add) 37 = .ok (.aload_n 0, 1) := by decide +kernel
theorem d_X1_add_38 : decode (zmc m_X1_add) 38 = .ok (.getfield 24, 3) := by decide +kernel
theorem d_X1_add_41 : decode (zmc m_X1_add) 41 = .ok (.iload_n 3, 1) := by decide +kernel
theorem d_X1_add_42 : decode (zmc m_X1_add) 42 = .ok (.iastore, 1) := by decide +kernel
theorem d_X1_add_43 : decode (zmc m_X1_add) 43 = .ok (.aload_n 0, 1) := by decide +kernel
theorem d_X1_add_44 : decode (zmc m_X1_add) 44 = .ok (.getfield 21, 3) := by decide +kernel
theorem d_X1_add_47 : decode (zmc m_X1_add) 47 = .ok (.aload_n 0, 1) := by decide +kernel
theorem d_X1_add_48 : decode (zmc m_X1_add) 48 = .ok (.getfield 24, 3) := by decide +kernel
theorem d_X1_add_51 : decode (zmc m_X1_add) 51 = .ok (.iload 4, 2) := by decide +kernel
theorem d_X1_add_53 : decode (zmc m_X1_add) 53 = .ok (.iastore, 1) := by decide +kernel
theorem d_X1_add_54 : decode (zmc m_X1_add) 54 = .ok (.aload_n 0, 1) := by decide +kernel
theorem d_X1_add_55 : decode (zmc m_X1_add) 55 = .ok (.dup, 1) := by decide +kernel
theorem d_X1_add_56 : decode (zmc m_X1_add) 56 = .ok (.getfield 24, 3) := by decide +kernel
theorem d_X1_add_59 : decode (zmc m_X1_add) 59 = .ok (.iconst 1, 1) := by decide +kernel
theorem d_X1_add_60 : decode (zmc m_X1_add) 60 = .ok (.iadd, 1) := by decide +kernel
theorem d_X1_add_61 : decode (zmc m_X1_add) 61 = .ok (.putfield 24, 3) := by decide +kernel
theorem d_X1_add_64 : decode (zmc m_X1_add) 64 = .ok (.aload_n 0, 1) := by decide +kernel
theorem d_X1_add_65 : decode (zmc m_X1_add) 65 = .ok (.aload_n 0, 1) := by decide +kernel
theorem d_X1_add_66 : decode (zmc m_X1_add) 66 = .ok (.getfield 24, 3) := by decide +kernel
theorem d_X1_add_69 : decode (zmc m_X1_add) 69 = .ok (.putfield 31, 3) := by decide +kernel
theorem d_X1_add_72 : decode (zmc m_X1_add) 72 = .ok (.return_, 1) := by decide +kernel
theorem d_X1_doAgain_0 : decode (zmc m_X1_doAgain) 0 = .ok (.aload_n 0, 1) := by decide +kernel
theorem d_X1_doAgain_1 : decode (zmc m_X1_doAgain) 1 = .ok (.getfield 24, 3) := by decide +kernel
theorem d_X1_doAgain_4 : decode (zmc m_X1_doAgain) 4 = .ok (.aload_n 0, 1) := by decide +kernel
theorem d_X1_doAgain_5 : decode (zmc m_X1_doAgain) 5 = .ok (.getfield 31, 3) := by decide +kernel
theorem d_X1_doAgain_8 : decode (zmc m_X1_doAgain) 8 = .ok (.if_icmp .ge 12, 3) := by decide +kernel
theorem d_X1_doAgain_11 : decode (zmc m_X1_doAgain) 11 = .ok (.aload_n 0, 1) := by decide +kernel
theorem d_X1_doAgain_12 : decode (zmc m_X1_doAgain) 12 = .ok (.getfield 24, 3) := by decide +kernel
theorem d_X1_doAgain_15 : decode (zmc m_X1_doAgain) 15 = .ok (.bipush 40, 2) := by decide +kernel
theorem d_X1_doAgain_17 : decode (zmc m_X1_doAgain) 17 = .ok (.if_icmp .lt 6, 3) := by decide +kernel
theorem d_X1_doAgain_20 : decode (zmc m_X1_doAgain) 20 = .ok (.bipush (-5), 2) := by decide +kernel
theorem d_X1_doAgain_22 : decode (zmc m_X1_doAgain) 22 = .ok (.ireturn, 1) := by decide +kernel
theorem d_X1_doAgain_23 : decode (zmc m_X1_doAgain) 23 = .ok (.aload_n 0, 1) := by decide +kernel
theorem d_X1_doAgain_24 : decode (zmc m_X1_doAgain) 24 = .ok (.aload_n 1, 1) := by decide +kernel
theorem d_X1_doAgain_25 : decode (zmc m_X1_doAgain) 25 = .ok (.aload_n 0, 1) := by decide +kernel
theorem d_X1_doAgain_26 : decode (zmc m_X1_doAgain) 26 = .ok (.getfield 24, 3) := by decide +kernel
theorem d_X1_doAgain_29 : decode (zmc m_X1_doAgain) 29 = .ok (.aload_n 0, 1) := by decide +kernel
theorem d_X1_doAgain_30 : decode (zmc m_X1_doAgain) 30 = .ok (.getfield 21, 3) := by decide +kernel
theorem d_X1_doAgain_33 : decode (zmc m_X1_doAgain) 33 = .ok (.aload_n 0, 1) := by decide +kernel
theorem d_X1_doAgain_34 : decode (zmc m_X1_doAgain) 34 = .ok (.getfield 24, 3) := by decide +kernel
theorem d_X1_doAgain_37 : decode (zmc m_X1_doAgain) 37 = .ok (.iaload, 1) := by decide +kernel
theorem d_X1_doAgain_38 : decode (zmc m_X1_doAgain) 38 = .ok (.invokevirtual 40, 3) := by decide +kernel
theorem d_X1_doAgain_41 : decode (zmc m_X1_doAgain) 41 = .ok (.aload_n 0, 1) := by decide +kernel
theorem d_X1_doAgain_42 : decode (zmc m_X1_doAgain) 42 = .ok (.dup, 1) := by decide +kernel
theorem d_X1_doAgain_43 : decode (zmc m_X1_doAgain) 43 = .ok (.getfield 24, 3) := by decide +kernel
theorem d_X1_doAgain_46 : decode (zmc m_X1_doAgain) 46 = .ok (.iconst 1, 1) := by decide +kernel
theorem d_X1_doAgain_47 : decode (zmc m_X1_doAgain) 47 = .ok (.iadd, 1) := by decide +kernel
theorem d_X1_doAgain_48 : decode (zmc m_X1_doAgain) 48 = .ok (.putfield 24, 3) := by decide +kernel
theorem d_X1_doAgain_51 : decode (zmc m_X1_doAgain) 51 = .ok (.aload_n 0, 1) := by decide +kernel
theorem d_X1_doAgain_52 : decode (zmc m_X1_doAgain) 52 = .ok (.getfield 31, 3) := by decide +kernel
theorem d_X1_doAgain_55 : decode (zmc m_X1_doAgain) 55 = .ok (.aload_n 0, 1) := by decide +kernel
theorem d_X1_doAgain_56 : decode (zmc m_X1_doAgain) 56 = .ok (.getfield 24, 3) := by decide +kernel
theorem d_X1_doAgain_59 : decode (zmc m_X1_doAgain) 59 = .ok (.isub, 1) := by decide +kernel
theorem d_X1_doAgain_60 : decode (zmc m_X1_doAgain) 60 = .ok (.ireturn, 1) := by decide +kernel
theorem d_X1_forgetOldest_0 : decode (zmc m_X1_forgetOldest) 0 = .ok (.aload_n 0, 1) := by decide +kernel
theorem d_X1_forgetOldest_1 : decode (zmc m_X1_forgetOldest) 1 = .ok (.getfield 11, 3) := by decide +kernel
theorem d_X1_forgetOldest_4 : decode (zmc m_X1_forgetOldest) 4 = .ok (.iconst 1, 1) := by decide +kernel
theorem d_X1_forgetOldest_5 : decode (zmc m_X1_forgetOldest) 5 = .ok (.aload_n 0, 1) := by decide +kernel
theorem d_X1_forgetOldest_6 : decode (zmc m_X1_forgetOldest) 6 = .ok (.getfield 11, 3) := by decide +kernel
theorem d_X1_forgetOldest_9 : decode (zmc m_X1_forgetOldest) 9 = .ok (.iconst 0, 1) := by decide +kernel
theorem d_X1_forgetOldest_10 : decode (zmc m_X1_forgetOldest) 10 = .ok (.bipush 39, 2) := by decide +kernel
theorem d_X1_forgetOldest_12 : decode (zmc m_X1_forgetOldest) 12 = .ok (.invokestatic 34, 3) := by decide +kernel
theorem d_X1_forgetOldest_15 : decode (zmc m_X1_forgetOldest) 15 = .ok (.aload_n 0, 1) := by decide +kernel
theorem d_X1_forgetOldest_16 : decode (zmc m_X1_forgetOldest) 16 = .ok (.getfield 15, 3) := by decide +kernel
theorem d_X1_forgetOldest_19 : decode (zmc m_X1_forgetOldest) 19 = .ok (.iconst 1, 1) := by decide +kernel
theorem d_X1_forgetOldest_20 : decode (zmc m_X1_forgetOldest) 20 = .ok (.aload_n 0, 1) := by decide +kernel
theorem d_X1_forgetOldest_21 : decode (zmc m_X1_forgetOldest) 21 = .ok (.getfield 15, 3) := by decide +kernel
theorem d_X1_forgetOldest_24 : decode (zmc m_X1_forgetOldest) 24 = .ok (.iconst 0, 1) := by decide +kernel
theorem d_X1_forgetOldest_25 : decode (zmc m_X1_forgetOldest) 25 = .ok (.bipush 39, 2) := by decide +kernel
theorem d_X1_forgetOldest_27 : decode (zmc m_X1_forgetOldest) 27 = .ok (.invokestatic 34, 3) := by decide +kernel
theorem d_X1_forgetOldest_30 : decode (zmc m_X1_forgetOldest) 30 = .ok (.aload_n 0, 1) := by decide +kernel
theorem d_X1_forgetOldest_31 : decode (zmc m_X1_forgetOldest) 31 = .ok (.getfield 18, 3) := by decide +kernel
theorem d_X1_forgetOldest_34 : decode (zmc m_X1_forgetOldest) 34 = .ok (.iconst 1, 1) := by decide +kernel
theorem d_X1_forgetOldest_35 : decode (zmc m_X1_forgetOldest) 35 = .ok (.aload_n 0, 1) := by decide +kernel
theorem d_X1_forgetOldest_36 : decode (zmc m_X1_forgetOldest) 36 = .ok (.getfield 18, 3) := by decide +kernel
theorem d_X1_forgetOldest_39 : decode (zmc m_X1_forgetOldest) 39 = .ok (.iconst 0, 1) := by decide +kernel
theorem d_X1_forgetOldest_40 : decode (zmc m_X1_forgetOldest) 40 = .ok (.bipush 39, 2) := by decide +kernel
theorem d_X1_forgetOldest_42 : decode (zmc m_X1_forgetOldest) 42 = .ok (.invokestatic 34, 3) := by decide +kernel
theorem d_X1_forgetOldest_45 : decode (zmc m_X1_forgetOldest) 45 = .ok (.aload_n 0, 1) := by decide +kernel
theorem d_X1_forgetOldest_46 : decode (zmc m_X1_forgetOldest) 46 = .ok (.getfield 21, 3) := by decide +kernel
theorem d_X1_forgetOldest_49 : decode (zmc m_X1_forgetOldest) 49 = .ok (.iconst 1, 1) := by decide +kernel
theorem d_X1_forgetOldest_50 : decode (zmc m_X1_forgetOldest) 50 = .ok (.aload_n 0, 1) := by decide +kernel
theorem d_X1_forgetOldest_51 : decode (zmc m_X1_forgetOldest) 51 = .ok (.getfield 21, 3) := by decide +kernel
theorem d_X1_forgetOldest_54 : decode (zmc m_X1_forgetOldest) 54 = .ok (.iconst 0, 1) := by decide +kernel
theorem d_X1_forgetOldest_55 : decode (zmc m_X1_forgetOldest) 55 = .ok (.bipush 39, 2) := by decide +kernel
theorem d_X1_forgetOldest_57 : decode (zmc m_X1_forgetOldest) 57 = .ok (.invokestatic 34, 3) := by decide +kernel
theorem d_X1_forgetOldest_60 : decode (zmc m_X1_forgetOldest) 60 = .ok (.aload_n 0, 1) := by decide +kernel
theorem d_X1_forgetOldest_61 : decode (zmc m_X1_forgetOldest) 61 = .ok (.bipush 39, 2) := by decide +kernel
theorem d_X1_forgetOldest_63 : decode (zmc m_X1_forgetOldest) 63 = .ok (.putfield 24, 3) := by decide +kernel
theorem d_X1_forgetOldest_66 : decode (zmc m_X1_forgetOldest) 66 = .ok (.return_, 1) := by decide +kernel
theorem d_X1_lay_0 : decode (zmc m_X1_lay) 0 = .ok (.aload_n 0, 1) := by decide +kernel
theorem d_X1_lay_1 : decode (zmc m_X1_lay) 1 = .ok (.getfield 11, 3) := by decide +kernel
theorem d_X1_lay_4 : decode (zmc m_X1_lay) 4 = .ok (.iload_n 2, 1) := by decide +kernel
theorem d_X1_lay_5 : decode (zmc m_X1_lay) 5 = .ok (.iaload, 1) := by decide +kernel
theorem d_X1_lay_6 : decode (zmc m_X1_lay) 6 = .ok (.ifCond .ne 21, 3) := by decide +kernel
theorem d_X1_lay_9 : decode (zmc m_X1_lay) 9 = .ok (.aload_n 1, 1) := by decide +kernel
theorem d_X1_lay_10 : decode (zmc m_X1_lay) 10 = .ok (.iload_n 3, 1) := by decide +kernel
theorem d_X1_lay_11 : decode (zmc m_X1_lay) 11 = .ok (.aload_n 0, 1) := by decide +kernel
theorem d_X1_lay_12 : decode (zmc m_X1_lay) 12 = .ok (.getfield 15, 3) := by decide +kernel
theorem d_X1_lay_15 : decode (zmc m_X1_lay) 15 = .ok (.iload_n 2, 1) := by decide +kernel
theorem d_X1_lay_16 : decode (zmc m_X1_lay) 16 = .ok (.iaload, 1) := by decide +kernel
theorem d_X1_lay_17 : decode (zmc m_X1_lay) 17 = .ok (.invokevirtual 44, 3) := by decide +kernel
theorem d_X1_lay_20 : decode (zmc m_X1_lay) 20 = .ok (.ifCond .eq 7, 3) := by decide +kernel
theorem d_X1_lay_23 : decode (zmc m_X1_lay) 23 = .ok (.iconst 1, 1) := by decide +kernel
theorem d_X1_lay_24 : decode (zmc m_X1_lay) 24 = .ok (.goto 4, 3) := by decide +kernel
theorem d_X1_lay_27 : decode (zmc m_X1_lay) 27 = .ok (.iconst 0, 1) := by decide +kernel
theorem d_X1_lay_28 : decode (zmc m_X1_lay) 28 = .ok (.istore 4, 2) := by decide +kernel
theorem d_X1_lay_30 : decode (zmc m_X1_lay) 30 = .ok (.iload 4, 2) := by decide +kernel
theorem d_X1_lay_32 : decode (zmc m_X1_lay) 32 = .ok (.ifCond .ne 20, 3) := by decide +kernel
theorem d_X1_lay_35 : decode (zmc m_X1_lay) 35 = .ok (.aload_n 1, 1) := by decide +kernel
theorem d_X1_lay_36 : decode (zmc m_X1_lay) 36 = .ok (.aload_n 0, 1) := by decide +kernel
theorem d_X1_lay_37 : decode (zmc m_X1_lay) 37 = .ok (.getfield 11, 3) := by decide +kernel
theorem d_X1_lay_40 : decode (zmc m_X1_lay) 40 = .ok (.iload_n 2, 1) := by decide +kernel
theorem d_X1_lay_41 : decode (zmc m_X1_lay) 41 = .ok (.iaload, 1) := by decide +kernel
theorem d_X1_lay_42 : decode (zmc m_X1_lay) 42 = .ok (.aload_n 0, 1) := by decide +kernel
theorem d_X1_lay_43 : decode (zmc m_X1_lay) 43 = .ok (.getfield 15, 3) := by decide +kernel
theorem d_X1_lay_46 : decode (zmc m_X1_lay) 46 = .ok (.iload_n 2, 1) := by decide +kernel
theorem d_X1_lay_47 : decode (zmc m_X1_lay) 47 = .ok (.iaload, 1) := by decide +kernel
theorem d_X1_lay_48 : decode (zmc m_X1_lay) 48 = .ok (.iload_n 3, 1) := by decide +kernel
theorem d_X1_lay_49 : decode (zmc m_X1_lay) 49 = .ok (.invokevirtual 50, 3) := by decide +kernel
theorem d_X1_lay_52 : decode (zmc m_X1_lay) 52 = .ok (.return_, 1) := by decide +kernel
theorem d_X1_takeBack_0 : decode (zmc m_X1_takeBack) 0 = .ok (.aload_n 0, 1) := by decide +kernel
theorem d_X1_takeBack_1 : decode (zmc m_X1_takeBack) 1 = .ok (.getfield 24, 3) := by decide +kernel
theorem d_X1_takeBack_4 : decode (zmc m_X1_takeBack) 4 = .ok (.ifCond .gt 6, 3) := by decide +kernel
theorem d_X1_takeBack_7 : decode (zmc m_X1_takeBack) 7 = .ok (.bipush (-5), 2) := by decide +kernel
theorem d_X1_takeBack_9 : decode (zmc m_X1_takeBack) 9 = .ok (.ireturn, 1) := by decide +kernel
theorem d_X1_takeBack_10 : decode (zmc m_X1_takeBack) 10 = .ok (.aload_n 0, 1) := by decide +kernel
theorem d_X1_takeBack_11 : decode (zmc m_X1_takeBack) 11 = .ok (.dup, 1) := by decide +kernel
theorem d_X1_takeBack_12 : decode (zmc m_X1_takeBack) 12 = .ok (.getfield 24, 3) := by decide +kernel
theorem d_X1_takeBack_15 : decode (zmc m_X1_takeBack) 15 = .ok (.iconst 1, 1) := by decide +kernel
theorem d_X1_takeBack_16 : decode (zmc m_X1_takeBack) 16 = .ok (.isub, 1) := by decide +kernel
theorem d_X1_takeBack_17 : decode (zmc m_X1_takeBack) 17 = .ok (.putfield 24, 3) := by decide +kernel
theorem d_X1_takeBack_20 : decode (zmc m_X1_takeBack) 20 = .ok (.aload_n 0, 1) := by decide +kernel
theorem d_X1_takeBack_21 : decode (zmc m_X1_takeBack) 21 = .ok (.aload_n 1, 1) := by decide +kernel
theorem d_X1_takeBack_22 : decode (zmc m_X1_takeBack) 22 = .ok (.aload_n 0, 1) := by decide +kernel
theorem d_X1_takeBack_23 : decode (zmc m_X1_takeBack) 23 = .ok (.getfield 24, 3) := by decide +kernel
theorem d_X1_takeBack_26 : decode (zmc m_X1_takeBack) 26 = .ok (.aload_n 0, 1) := by decide +kernel
theorem d_X1_takeBack_27 : decode (zmc m_X1_takeBack) 27 = .ok (.getfield 18, 3) := by decide +kernel
theorem d_X1_takeBack_30 : decode (zmc m_X1_takeBack) 30 = .ok (.aload_n 0, 1) := by decide +kernel
theorem d_X1_takeBack_31 : decode (zmc m_X1_takeBack) 31 = .ok (.getfield 24, 3) := by decide +kernel
theorem d_X1_takeBack_34 : decode (zmc m_X1_takeBack) 34 = .ok (.iaload, 1) := by decide +kernel
theorem d_X1_takeBack_35 : decode (zmc m_X1_takeBack) 35 = .ok (.invokevirtual 40, 3) := by decide +kernel
theorem d_X1_takeBack_38 : decode (zmc m_X1_takeBack) 38 = .ok (.aload_n 0, 1) := by decide +kernel
theorem d_X1_takeBack_39 : decode (zmc m_X1_takeBack) 39 = .ok (.getfield 24, 3) := by decide +kernel
theorem d_X1_takeBack_42 : decode (zmc m_X1_takeBack) 42 = .ok (.ireturn, 1) := by decide +kernel
theorem d_X5_layOn_0 : decode (zmc m_X5_layOn) 0 = .ok (.iconst 0, 1) := by decide +kernel
theorem d_X5_layOn_1 : decode (zmc m_X5_layOn) 1 = .ok (.istore_n 2, 1) := by decide +kernel
theorem d_X5_layOn_2 : decode (zmc m_X5_layOn) 2 = .ok (.iload_n 2, 1) := by decide +kernel
theorem d_X5_layOn_3 : decode (zmc m_X5_layOn) 3 = .ok (.aload_n 0, 1) := by decide +kernel
theorem d_X5_layOn_4 : decode (zmc m_X5_layOn) 4 = .ok (.getfield 29, 3) := by decide +kernel
theorem d_X5_layOn_7 : decode (zmc m_X5_layOn) 7 = .ok (.if_icmp .ge 37, 3) := by decide +kernel
theorem d_X5_layOn_10 : decode (zmc m_X5_layOn) 10 = .ok (.aload_n 1, 1) := by decide +kernel
theorem d_X5_layOn_11 : decode (zmc m_X5_layOn) 11 = .ok (.iconst 4, 1) := by decide +kernel
theorem d_X5_layOn_12 : decode (zmc m_X5_layOn) 12 = .ok (.iload_n 2, 1) := by decide +kernel
theorem d_X5_layOn_13 : decode (zmc m_X5_layOn) 13 = .ok (.aload_n 0, 1) := by decide +kernel
theorem d_X5_layOn_14 : decode (zmc m_X5_layOn) 14 = .ok (.getfield 19, 3) := by decide +kernel
theorem d_X5_layOn_17 : decode (zmc m_X5_layOn) 17 = .ok (.iload_n 2, 1) := by decide +kernel
theorem d_X5_layOn_18 : decode (zmc m_X5_layOn) 18 = .ok (.ishr, 1) := by decide +kernel
theorem d_X5_layOn_19 : decode (zmc m_X5_layOn) 19 = .ok (.iconst 1, 1) := by decide +kernel
theorem d_X5_layOn_20 : decode (zmc m_X5_layOn) 20 = .ok (.iand, 1) := by decide +kernel
theorem d_X5_layOn_21 : decode (zmc m_X5_layOn) 21 = .ok (.invokevirtual 51, 3) := by decide +kernel
theorem d_X5_layOn_24 : decode (zmc m_X5_layOn) 24 = .ok (.aload_n 1, 1) := by decide +kernel
theorem d_X5_layOn_25 : decode (zmc m_X5_layOn) 25 = .ok (.iconst 5, 1) := by decide +kernel
theorem d_X5_layOn_26 : decode (zmc m_X5_layOn) 26 = .ok (.iload_n 2, 1) := by decide +kernel
theorem d_X5_layOn_27 : decode (zmc m_X5_layOn) 27 = .ok (.aload_n 0, 1) := by decide +kernel
theorem d_X5_layOn_28 : decode (zmc m_X5_layOn) 28 = .ok (.getfield 23, 3) := by decide +kernel
theorem d_X5_layOn_31 : decode (zmc m_X5_layOn) 31 = .ok (.iload_n 2, 1) := by decide +kernel
theorem d_X5_layOn_32 : decode (zmc m_X5_layOn) 32 = .ok (.ishr, 1) := by decide +kernel
theorem d_X5_layOn_33 : decode (zmc m_X5_layOn) 33 = .ok (.iconst 1, 1) := by decide +kernel
theorem d_X5_layOn_34 : decode (zmc m_X5_layOn) 34 = .ok (.iand, 1) := by decide +kernel
theorem d_X5_layOn_35 : decode (zmc m_X5_layOn) 35 = .ok (.invokevirtual 51, 3) := by decide +kernel
theorem d_X5_layOn_38 : decode (zmc m_X5_layOn) 38 = .ok (.iinc 2 1, 3) := by decide +kernel
theorem d_X5_layOn_41 : decode (zmc m_X5_layOn) 41 = .ok (.goto (-39), 3) := by decide +kernel
theorem d_X5_layOn_44 : decode (zmc m_X5_layOn) 44 = .ok (.aload_n 1, 1) := by decide +kernel
theorem d_X5_layOn_45 : decode (zmc m_X5_layOn) 45 = .ok (.bipush 9, 2) := by decide +kernel
theorem d_X5_layOn_47 : decode (zmc m_X5_layOn) 47 = .ok (.iconst 0, 1) := by decide +kernel
theorem d_X5_layOn_48 : decode (zmc m_X5_layOn) 48 = .ok (.aload_n 0, 1) := by decide +kernel
theorem d_X5_layOn_49 : decode (zmc m_X5_layOn) 49 = .ok (.getfield 34, 3) := by decide +kernel
theorem d_X5_layOn_52 : decode (zmc m_X5_layOn) 52 = .ok (.invokevirtual 51, 3) := by decide +kernel
theorem d_X5_layOn_55 : decode (zmc m_X5_layOn) 55 = .ok (.aload_n 1, 1) := by decide +kernel
theorem d_X5_layOn_56 : decode (zmc m_X5_layOn) 56 = .ok (.bipush 11, 2) := by decide +kernel
theorem d_X5_layOn_58 : decode (zmc m_X5_layOn) 58 = .ok (.iconst 0, 1) := by decide +kernel
theorem d_X5_layOn_59 : decode (zmc m_X5_layOn) 59 = .ok (.aload_n 0, 1) := by decide +kernel
theorem d_X5_layOn_60 : decode (zmc m_X5_layOn) 60 = .ok (.getfield 37, 3) := by decide +kernel
theorem d_X5_layOn_63 : decode (zmc m_X5_layOn) 63 = .ok (.invokevirtual 51, 3) := by decide +kernel
theorem d_X5_layOn_66 : decode (zmc m_X5_layOn) 66 = .ok (.aload_n 0, 1) := by decide +kernel
theorem d_X5_layOn_67 : decode (zmc m_X5_layOn) 67 = .ok (.getfield 9, 3) := by decide +kernel
theorem d_X5_layOn_70 : decode (zmc m_X5_layOn) 70 = .ok (.iconst 0, 1) := by decide +kernel
theorem d_X5_layOn_71 : decode (zmc m_X5_layOn) 71 = .ok (.aload_n 1, 1) := by decide +kernel
theorem d_X5_layOn_72 : decode (zmc m_X5_layOn) 72 = .ok (.getfield 40, 3) := by decide +kernel
theorem d_X5_layOn_75 : decode (zmc m_X5_layOn) 75 = .ok (.iconst 0, 1) := by decide +kernel
theorem d_X5_layOn_76 : decode (zmc m_X5_layOn) 76 = .ok (.iconst 5, 1) := by decide +kernel
theorem d_X5_layOn_77 : decode (zmc m_X5_layOn) 77 = .ok (.invokestatic 41, 3) := by decide +kernel
theorem d_X5_layOn_80 : decode (zmc m_X5_layOn) 80 = .ok (.return_, 1) := by decide +kernel
theorem d_X5_takeOf_0 : decode (zmc m_X5_takeOf) 0 = .ok (.aload_n 0, 1) := by decide +kernel
theorem d_X5_takeOf_1 : decode (zmc m_X5_takeOf) 1 = .ok (.aload_n 1, 1) := by decide +kernel
theorem d_X5_takeOf_2 : decode (zmc m_X5_takeOf) 2 = .ok (.iconst 4, 1) := by decide +kernel
theorem d_X5_takeOf_3 : decode (zmc m_X5_takeOf) 3 = .ok (.invokevirtual 15, 3) := by decide +kernel
theorem d_X5_takeOf_6 : decode (zmc m_X5_takeOf) 6 = .ok (.putfield 19, 3) := by decide +kernel
theorem d_X5_takeOf_9 : decode (zmc m_X5_takeOf) 9 = .ok (.aload_n 0, 1) := by decide +kernel
theorem d_X5_takeOf_10 : decode (zmc m_X5_takeOf) 10 = .ok (.aload_n 1, 1) := by decide +kernel
theorem d_X5_takeOf_11 : decode (zmc m_X5_takeOf) 11 = .ok (.iconst 5, 1) := by decide +kernel
theorem d_X5_takeOf_12 : decode (zmc m_X5_takeOf) 12 = .ok (.invokevirtual 15, 3) := by decide +kernel
theorem d_X5_takeOf_15 : decode (zmc m_X5_takeOf) 15 = .ok (.putfield 23, 3) := by decide +kernel
theorem d_X5_takeOf_18 : decode (zmc m_X5_takeOf) 18 = .ok (.aload_n 0, 1) := by decide +kernel
theorem d_X5_takeOf_19 : decode (zmc m_X5_takeOf) 19 = .ok (.aload_n 1, 1) := by decide +kernel
theorem d_X5_takeOf_20 : decode (zmc m_X5_takeOf) 20 = .ok (.getfield 26, 3) := by decide +kernel
theorem d_X5_takeOf_23 : decode (zmc m_X5_takeOf) 23 = .ok (.putfield 29, 3) := by decide +kernel
theorem d_X5_takeOf_26 : decode (zmc m_X5_takeOf) 26 = .ok (.aload_n 0, 1) := by decide +kernel
theorem d_X5_takeOf_27 : decode (zmc m_X5_takeOf) 27 = .ok (.aload_n 1, 1) := by decide +kernel
theorem d_X5_takeOf_28 : decode (zmc m_X5_takeOf) 28 = .ok (.bipush 9, 2) := by decide +kernel
theorem d_X5_takeOf_30 : decode (zmc m_X5_takeOf) 30 = .ok (.iconst 0, 1) := by decide +kernel
theorem d_X5_takeOf_31 : decode (zmc m_X5_takeOf) 31 = .ok (.invokevirtual 30, 3) := by decide +kernel
theorem d_X5_takeOf_34 : decode (zmc m_X5_takeOf) 34 = .ok (.putfield 34, 3) := by decide +kernel
theorem d_X5_takeOf_37 : decode (zmc m_X5_takeOf) 37 = .ok (.aload_n 0, 1) := by decide +kernel
theorem d_X5_takeOf_38 : decode (zmc m_X5_takeOf) 38 = .ok (.aload_n 1, 1) := by decide +kernel
theorem d_X5_takeOf_39 : decode (zmc m_X5_takeOf) 39 = .ok (.bipush 11, 2) := by decide +kernel
theorem d_X5_takeOf_41 : decode (zmc m_X5_takeOf) 41 = .ok (.iconst 0, 1) := by decide +kernel
theorem d_X5_takeOf_42 : decode (zmc m_X5_takeOf) 42 = .ok (.invokevirtual 30, 3) := by decide +kernel
theorem d_X5_takeOf_45 : decode (zmc m_X5_takeOf) 45 = .ok (.putfield 37, 3) := by decide +kernel
theorem d_X5_takeOf_48 : decode (zmc m_X5_takeOf) 48 = .ok (.aload_n 1, 1) := by decide +kernel
theorem d_X5_takeOf_49 : decode (zmc m_X5_takeOf) 49 = .ok (.getfield 40, 3) := by decide +kernel
theorem d_X5_takeOf_52 : decode (zmc m_X5_takeOf) 52 = .ok (.iconst 0, 1) := by decide +kernel
theorem d_X5_takeOf_53 : decode (zmc m_X5_takeOf) 53 = .ok (.aload_n 0, 1) := by decide +kernel
theorem d_X5_takeOf_54 : decode (zmc m_X5_takeOf) 54 = .ok (.getfield 9, 3) := by decide +kernel
theorem d_X5_takeOf_57 : decode (zmc m_X5_takeOf) 57 = .ok (.iconst 0, 1) := by decide +kernel
theorem d_X5_takeOf_58 : decode (zmc m_X5_takeOf) 58 = .ok (.iconst 5, 1) := by decide +kernel
theorem d_X5_takeOf_59 : decode (zmc m_X5_takeOf) 59 = .ok (.invokestatic 41, 3) := by decide +kernel
theorem d_X5_takeOf_62 : decode (zmc m_X5_takeOf) 62 = .ok (.aload_n 0, 1) := by decide +kernel
theorem d_X5_takeOf_63 : decode (zmc m_X5_takeOf) 63 = .ok (.iconst 1, 1) := by decide +kernel
theorem d_X5_takeOf_64 : decode (zmc m_X5_takeOf) 64 = .ok (.putfield 47, 3) := by decide +kernel
theorem d_X5_takeOf_67 : decode (zmc m_X5_takeOf) 67 = .ok (.return_, 1) := by decide +kernel
/-! CHANGES, AN IMAGE -/
theorem zup_3 {α : Type} {f : Nat → α} {a b : Nat} {x y z : α} (h : a ≠ b) : zup (zup (zup f a x) b y) a z = zup (zup f a z) b y := by
  funext j
  unfold zup
  by_cases h1 : j = a
  · subst h1; simp [h]
  · simp [h1]
theorem zup_comm {α : Type} {f : Nat → α} {a b : Nat} {x y : α} (h : a ≠ b) : zup (zup f a x) b y = zup (zup f b y) a x := by
  funext j
  unfold zup
  by_cases h1 : j = a
  · subst h1; simp [h]
  · simp [h1]
theorem zup_self {α : Type} {f : Nat → α} {a : Nat} : zup f a (f a) = f := by
  funext j; unfold zup; split <;> simp_all
def zLay (I : Nat → Nat → Int32) (ns nt nh : Nat) (what number v : Int32) : Nat → Nat → Int32 := if what = 0 ∧ (¬ zfind (I 3) v ns 0 = -2 ∧ ¬ zfind (I 3) v ns 0 = number) then I else zSetI I ns nt nh what number v
theorem zSetI_ne {I : Nat → Nat → Int32} {ns nt nh a : Nat} {what number v : Int32} (h : a < 3 ∨ 14 < a) : zSetI I ns nt nh what number v a = I a := by
  unfold zSetI
  split
  next q =>
    have hw : ¬ (what < 0 ∨ 12 ≤ what) := by
      intro z
      have e : zHold ns nt nh what = 0 := if_pos z
      have := q.2
      rw [e] at this
      have := q.1
      have e0 : nI 0 = 0 := rfl
      grind
    obtain ⟨j, hj, rfl⟩ := zn1 (x := what) (n := 12) (by omega) (by grind) (by have : nI 12 = 12 := rfl; grind)
    rw [zcl_n (by omega), zup_ne (by omega)]
  next => rfl
theorem zLay_ne {I : Nat → Nat → Int32} {ns nt nh a : Nat} {what number v : Int32} (h : a < 3 ∨ 14 < a) : zLay I ns nt nh what number v a = I a := by
  unfold zLay
  split
  · rfl
  · exact zSetI_ne h
def zForg (I : Nat → Nat → Int32) : Nat → Nat → Int32 := zup (zup (zup (zup (zup I 32 (va_cpy (I 32) (I 32) 1 0 39)) 33 (va_cpy (I 33) (I 33) 1 0 39)) 34 (va_cpy (I 34) (I 34) 1 0 39)) 35 (va_cpy (I 35) (I 35) 1 0 39)) 31 (zup (I 31) 4 39)
def zChgW (I : Nat → Nat → Int32) (k : Nat) (c o f t : Int32) : Nat → Nat → Int32 := zup (zup (zup (zup (zup I 32 (zup (I 32) k c)) 33 (zup (I 33) k o)) 34 (zup (I 34) k f)) 35 (zup (I 35) k t)) 31 (zup (zup (I 31) 4 (nI (k + 1))) 5 (nI (k + 1)))
def zChg (I : Nat → Nat → Int32) (dn : Nat) (c o f t : Int32) : Nat → Nat → Int32 := if dn = 40 then zChgW (zForg I) 39 c o f t else zChgW I dn c o f t
def zTakeI (I : Nat → Nat → Int32) (ns : Nat) : Nat → Nat → Int32 :=
  zup (zup I 37 (va_cpy (I 15) (I 37) 0 0 5)) 36 (zup (zup (zup (zup (zup (zup (I 36) 1 (zbits (I 7) ns)) 2 (zbits (I 8) ns)) 3 (nI ns)) 4 (I 12 0)) 5 (I 14 0)) 6 1)
def zBitF (b : Int32) (f : Nat → Int32) (n k : Nat) : Nat → Int32 := zfor (fun k f => zup f k ((b >>> (nI k &&& 31)) &&& 1)) n k f
def zBackI (I : Nat → Nat → Int32) (ks : Nat) : Nat → Nat → Int32 :=
  zup (zup (zup (zup (zup I 7 (zBitF (I 36 1) (I 7) ks 0)) 8 (zBitF (I 36 2) (I 8) ks 0)) 12 (zup (I 12) 0 (I 36 4))) 14 (zup (I 14) 0 (I 36 5))) 15 (va_cpy (I 37) (I 15) 0 0 5)
section S12
variable {g : zG} {l : Launch} {d : Nat} {I : Nat → Nat → Int32} {L : Nat → Nat → Int64} {fs : Nat × Nat × Option Nat} {ns nt nh : Nat}
theorem zSky_of {I' : Nat → Nat → Int32} (h : I' 1 = I 1) (hK : zSky I ns nt nh) : zSky I' ns nt nh := by
  unfold zSky; rw [h]; exact hK
theorem sp_X1_lay (hd : 4 ≤ d) (hK : zSky I ns nt nh) {c : Nat} (hc : c < 40) {v : Int32} : zSp g l d 100 m_X1_lay [.ref 31, .ref 1, .int (nI c), .int v] (zU I L fs) (zV (fun w => w = zU (zLay I ns nt nh (I 32 c) (I 33 c) v) L fs)) := by
  refine zSp_of (lv := [(0, .ref 31), (1, .ref 1), (2, .int (nI c)), (3, .int v)]) k_X1_lay rfl (Nat.le_of_ble_eq_true rfl) ?_
  refine zAloadN d_X1_lay_0 rfl rfl (q := 1) rfl ?_
  refine zGetR d_X1_lay_1 ff_X1_11 sh_31 (by decide) r_31_0 (q := 4) rfl ?_
  refine zIloadN d_X1_lay_4 rfl rfl (q := 5) rfl ?_
  refine zIald d_X1_lay_5 sh_32 (by decide) rfl hc (q := 6) rfl ?_
  refine zIf_ne d_X1_lay_6 (tgt := 27) (q := 9) (by decide) rfl (fun h6 => ?_) (fun h6 => ?_)
  · refine zIconst d_X1_lay_27 (v := 0) ic_0 (q := 28) rfl ?_
    refine zIstore d_X1_lay_28 (by decide) rfl (q := 30) rfl ?_
    refine zIload d_X1_lay_30 rfl (q := 32) rfl ?_
    refine zIf_ne d_X1_lay_32 (tgt := 52) (q := 35) (by decide) rfl (fun h => absurd h (by decide)) (fun _ => ?_)
    refine zAloadN d_X1_lay_35 rfl rfl (q := 36) rfl ?_
    refine zAloadN d_X1_lay_36 rfl rfl (q := 37) rfl ?_
    refine zGetR d_X1_lay_37 ff_X1_11 sh_31 (by decide) r_31_0 (q := 40) rfl ?_
    refine zIloadN d_X1_lay_40 rfl rfl (q := 41) rfl ?_
    refine zIald d_X1_lay_41 sh_32 (by decide) rfl hc (q := 42) rfl ?_
    refine zAloadN d_X1_lay_42 rfl rfl (q := 43) rfl ?_
    refine zGetR d_X1_lay_43 ff_X1_15 sh_31 (by decide) r_31_1 (q := 46) rfl ?_
    refine zIloadN d_X1_lay_46 rfl rfl (q := 47) rfl ?_
    refine zIald d_X1_lay_47 sh_33 (by decide) rfl hc (q := 48) rfl ?_
    refine zIloadN d_X1_lay_48 rfl rfl (q := 49) rfl ?_
    refine zCallVV d_X1_lay_49 ml_X1_50 k_X9_set ki_X9_set ks_X9_set (sp_X9_set (d := d - 1) (by omega) hK) rfl rfl sh_1 (by decide) rfl (by decide) (Nat.le_of_ble_eq_true rfl) (by decide) (by omega) zns100 (q := 52) rfl (fun w' hw' => ?_)
    subst hw'
    refine zVret d_X1_lay_52 rfl rfl ?_
    exact ⟨rfl, by unfold zLay; first | rw [if_neg (fun q => h6 q.1)] | rw [if_neg (fun q => bi_0.mp h20 q.2)] | rw [if_pos ⟨h6, bi_n0.mp h20⟩]⟩
  · refine zAloadN d_X1_lay_9 rfl rfl (q := 10) rfl ?_
    refine zIloadN d_X1_lay_10 rfl rfl (q := 11) rfl ?_
    refine zAloadN d_X1_lay_11 rfl rfl (q := 12) rfl ?_
    refine zGetR d_X1_lay_12 ff_X1_15 sh_31 (by decide) r_31_1 (q := 15) rfl ?_
    refine zIloadN d_X1_lay_15 rfl rfl (q := 16) rfl ?_
    refine zIald d_X1_lay_16 sh_33 (by decide) rfl hc (q := 17) rfl ?_
    refine zCallVP d_X1_lay_17 ml_X1_44 k_X9_isTakenByOther ki_X9_isTakenByOther ks_X9_isTakenByOther (sp_X9_isTakenByOther (d := d - 1) (by omega) hK) rfl rfl sh_1 (by decide) rfl (by decide) (Nat.le_of_ble_eq_true rfl) (by decide) (by omega) zns100 (q := 20) rfl ?_
    refine zIf_eq d_X1_lay_20 (tgt := 27) (q := 23) (by decide) rfl (fun h20 => ?_) (fun h20 => ?_)
    · refine zIconst d_X1_lay_27 (v := 0) ic_0 (q := 28) rfl ?_
      refine zIstore d_X1_lay_28 (by decide) rfl (q := 30) rfl ?_
      refine zIload d_X1_lay_30 rfl (q := 32) rfl ?_
      refine zIf_ne d_X1_lay_32 (tgt := 52) (q := 35) (by decide) rfl (fun h => absurd h (by decide)) (fun _ => ?_)
      refine zAloadN d_X1_lay_35 rfl rfl (q := 36) rfl ?_
      refine zAloadN d_X1_lay_36 rfl rfl (q := 37) rfl ?_
      refine zGetR d_X1_lay_37 ff_X1_11 sh_31 (by decide) r_31_0 (q := 40) rfl ?_
      refine zIloadN d_X1_lay_40 rfl rfl (q := 41) rfl ?_
      refine zIald d_X1_lay_41 sh_32 (by decide) rfl hc (q := 42) rfl ?_
      refine zAloadN d_X1_lay_42 rfl rfl (q := 43) rfl ?_
      refine zGetR d_X1_lay_43 ff_X1_15 sh_31 (by decide) r_31_1 (q := 46) rfl ?_
      refine zIloadN d_X1_lay_46 rfl rfl (q := 47) rfl ?_
      refine zIald d_X1_lay_47 sh_33 (by decide) rfl hc (q := 48) rfl ?_
      refine zIloadN d_X1_lay_48 rfl rfl (q := 49) rfl ?_
      refine zCallVV d_X1_lay_49 ml_X1_50 k_X9_set ki_X9_set ks_X9_set (sp_X9_set (d := d - 1) (by omega) hK) rfl rfl sh_1 (by decide) rfl (by decide) (Nat.le_of_ble_eq_true rfl) (by decide) (by omega) zns100 (q := 52) rfl (fun w' hw' => ?_)
      subst hw'
      refine zVret d_X1_lay_52 rfl rfl ?_
      exact ⟨rfl, by unfold zLay; first | rw [if_neg (fun q => h6 q.1)] | rw [if_neg (fun q => bi_0.mp h20 q.2)] | rw [if_pos ⟨h6, bi_n0.mp h20⟩]⟩
    · refine zIconst d_X1_lay_23 (v := 1) ic_1 (q := 24) rfl ?_
      refine zGoto d_X1_lay_24 (q := 28) (by decide) ?_
      refine zIstore d_X1_lay_28 (by decide) rfl (q := 30) rfl ?_
      refine zIload d_X1_lay_30 rfl (q := 32) rfl ?_
      refine zIf_ne d_X1_lay_32 (tgt := 52) (q := 35) (by decide) rfl (fun _ => ?_) (fun h => absurd h (by decide))
      refine zVret d_X1_lay_52 rfl rfl ?_
      exact ⟨rfl, by unfold zLay; first | rw [if_neg (fun q => h6 q.1)] | rw [if_neg (fun q => bi_0.mp h20 q.2)] | rw [if_pos ⟨h6, bi_n0.mp h20⟩]⟩
theorem sp_X1_takeBack (hd : 5 ≤ d) (hK : zSky I ns nt nh) {dn : Nat} (hdn : I 31 4 = nI dn) (h40 : dn ≤ 40) : zSp g l d 100 m_X1_takeBack [.ref 31, .ref 1] (zU I L fs) (zX (fun x w => (dn = 0 ∧ x = -5 ∧ w = zU I L fs) ∨ (0 < dn ∧ x = nI (dn - 1) ∧ w = zU (zLay (zup I 31 (zup (I 31) 4 (nI (dn - 1)))) ns nt nh (I 32 (dn - 1)) (I 33 (dn - 1)) (I 34 (dn - 1))) L fs))) := by
  refine zSp_of (lv := [(0, .ref 31), (1, .ref 1)]) k_X1_takeBack rfl (Nat.le_of_ble_eq_true rfl) ?_
  refine zAloadN d_X1_takeBack_0 rfl rfl (q := 1) rfl ?_
  refine zGetI d_X1_takeBack_1 ff_X1_24 sh_31 (by decide) (q := 4) rfl ?_
  refine zIf_gt d_X1_takeBack_4 (tgt := 10) (q := 7) (by decide) rfl (fun h4 => ?_) (fun h4 => ?_)
  · have hp : 0 < dn := by rw [hdn] at h4; exact nlt (a := 0) h4
    obtain ⟨k, rfl⟩ : ∃ k, dn = k + 1 := ⟨dn - 1, by omega⟩
    refine zAloadN d_X1_takeBack_10 rfl rfl (q := 11) rfl ?_
    refine zDup d_X1_takeBack_11 rfl (q := 12) rfl ?_
    refine zGetI d_X1_takeBack_12 ff_X1_24 sh_31 (by decide) (q := 15) rfl ?_
    refine zIconst d_X1_takeBack_15 (v := 1) ic_1 (q := 16) rfl ?_
    refine zIsub d_X1_takeBack_16 (q := 17) rfl ?_
    refine zPutI d_X1_takeBack_17 ff_X1_24 rfl rfl rfl sh_31 (by decide) (q := 20) rfl ?_
    rw [hdn, nI_pred]
    have e1 : (zup I 31 (zup (I 31) 4 (nI k))) 31 4 = nI k := rfl
    refine zAloadN d_X1_takeBack_20 rfl rfl (q := 21) rfl ?_
    refine zAloadN d_X1_takeBack_21 rfl rfl (q := 22) rfl ?_
    refine zAloadN d_X1_takeBack_22 rfl rfl (q := 23) rfl ?_
    refine zGetI d_X1_takeBack_23 ff_X1_24 sh_31 (by decide) (q := 26) rfl ?_
    refine zAloadN d_X1_takeBack_26 rfl rfl (q := 27) rfl ?_
    refine zGetR d_X1_takeBack_27 ff_X1_18 sh_31 (by decide) r_31_2 (q := 30) rfl ?_
    refine zAloadN d_X1_takeBack_30 rfl rfl (q := 31) rfl ?_
    refine zGetI d_X1_takeBack_31 ff_X1_24 sh_31 (by decide) (q := 34) rfl ?_
    refine zIald d_X1_takeBack_34 sh_34 (by decide) e1 (by omega) (q := 35) rfl ?_
    rw [e1]
    refine zCallVV d_X1_takeBack_35 ml_X1_40 k_X1_lay ki_X1_lay ks_X1_lay (sp_X1_lay (d := d - 1) (by omega) (zSky_up (a := 31) hK (by decide)) (c := k) (by omega)) rfl rfl sh_31 (by decide) rfl (by decide) (Nat.le_of_ble_eq_true rfl) (by decide) (by omega) zns100 (q := 38) rfl (fun w' hw' => ?_)
    subst hw'
    refine zAloadN d_X1_takeBack_38 rfl rfl (q := 39) rfl ?_
    refine zGetI d_X1_takeBack_39 ff_X1_24 sh_31 (by decide) (q := 42) rfl ?_
    refine zIret d_X1_takeBack_42 rfl rfl rfl ?_
    exact ⟨_, rfl, Or.inr ⟨hp, by rw [zLay_ne (by decide)]; rfl, rfl⟩⟩
  · have e : dn = 0 := by rw [hdn] at h4; have := nnlt (a := 0) h4; omega
    refine zBipush d_X1_takeBack_7 (v := -5) bc_m5 (q := 9) rfl ?_
    refine zIret d_X1_takeBack_9 rfl rfl rfl ?_
    exact ⟨_, rfl, Or.inl ⟨e, rfl, rfl⟩⟩
theorem sp_X1_doAgain (hd : 5 ≤ d) (hK : zSky I ns nt nh) {dn al : Nat} (hdn : I 31 4 = nI dn) (hal : I 31 5 = nI al) (h40 : al ≤ 40) (hle : dn ≤ al) : zSp g l d 100 m_X1_doAgain [.ref 31, .ref 1] (zU I L fs) (zX (fun x w => (dn = al ∧ x = -5 ∧ w = zU I L fs) ∨ (dn < al ∧ x = nI (al - (dn + 1)) ∧ w = zU (zup (zLay I ns nt nh (I 32 dn) (I 33 dn) (I 35 dn)) 31 (zup (I 31) 4 (nI (dn + 1)))) L fs))) := by
  refine zSp_of (lv := [(0, .ref 31), (1, .ref 1)]) k_X1_doAgain rfl (Nat.le_of_ble_eq_true rfl) ?_
  refine zAloadN d_X1_doAgain_0 rfl rfl (q := 1) rfl ?_
  refine zGetI d_X1_doAgain_1 ff_X1_24 sh_31 (by decide) (q := 4) rfl ?_
  refine zAloadN d_X1_doAgain_4 rfl rfl (q := 5) rfl ?_
  refine zGetI d_X1_doAgain_5 ff_X1_31 sh_31 (by decide) (q := 8) rfl ?_
  refine zIcmp_ge d_X1_doAgain_8 (tgt := 20) (q := 11) (by decide) rfl (fun h8 => ?_) (fun h8 => ?_)
  · have e : dn = al := by rw [hdn, hal] at h8; have := nle h8; omega
    refine zBipush d_X1_doAgain_20 (v := -5) bc_m5 (q := 22) rfl ?_
    refine zIret d_X1_doAgain_22 rfl rfl rfl ?_
    exact ⟨_, rfl, Or.inl ⟨e, rfl, rfl⟩⟩
  · have hlt : dn < al := by rw [hdn, hal] at h8; exact nnle h8
    refine zAloadN d_X1_doAgain_11 rfl rfl (q := 12) rfl ?_
    refine zGetI d_X1_doAgain_12 ff_X1_24 sh_31 (by decide) (q := 15) rfl ?_
    refine zBipush d_X1_doAgain_15 (v := 40) bc_40 (q := 17) rfl ?_
    refine zIcmp_lt d_X1_doAgain_17 (tgt := 23) (q := 20) (by decide) rfl (fun h17 => ?_) (fun h => absurd (by rw [hdn]; exact (nI_ltI (b := 40) (by omega) (by omega)).mpr (by omega)) h)
    refine zAloadN d_X1_doAgain_23 rfl rfl (q := 24) rfl ?_
    refine zAloadN d_X1_doAgain_24 rfl rfl (q := 25) rfl ?_
    refine zAloadN d_X1_doAgain_25 rfl rfl (q := 26) rfl ?_
    refine zGetI d_X1_doAgain_26 ff_X1_24 sh_31 (by decide) (q := 29) rfl ?_
    refine zAloadN d_X1_doAgain_29 rfl rfl (q := 30) rfl ?_
    refine zGetR d_X1_doAgain_30 ff_X1_21 sh_31 (by decide) r_31_3 (q := 33) rfl ?_
    refine zAloadN d_X1_doAgain_33 rfl rfl (q := 34) rfl ?_
    refine zGetI d_X1_doAgain_34 ff_X1_24 sh_31 (by decide) (q := 37) rfl ?_
    refine zIald d_X1_doAgain_37 sh_35 (by decide) hdn (by omega) (q := 38) rfl ?_
    rw [hdn]
    refine zCallVV d_X1_doAgain_38 ml_X1_40 k_X1_lay ki_X1_lay ks_X1_lay (sp_X1_lay (d := d - 1) (by omega) hK (c := dn) (by omega)) rfl rfl sh_31 (by decide) rfl (by decide) (Nat.le_of_ble_eq_true rfl) (by decide) (by omega) zns100 (q := 41) rfl (fun w' hw' => ?_)
    subst hw'
    refine zAloadN d_X1_doAgain_41 rfl rfl (q := 42) rfl ?_
    refine zDup d_X1_doAgain_42 rfl (q := 43) rfl ?_
    refine zGetI d_X1_doAgain_43 ff_X1_24 sh_31 (by decide) (q := 46) rfl ?_
    refine zIconst d_X1_doAgain_46 (v := 1) ic_1 (q := 47) rfl ?_
    refine zIadd d_X1_doAgain_47 (q := 48) rfl ?_
    refine zPutI d_X1_doAgain_48 ff_X1_24 rfl rfl rfl sh_31 (by decide) (q := 51) rfl ?_
    rw [zLay_ne (a := 31) (by decide), hdn, nI_1]
    refine zAloadN d_X1_doAgain_51 rfl rfl (q := 52) rfl ?_
    refine zGetI d_X1_doAgain_52 ff_X1_31 sh_31 (by decide) (q := 55) rfl ?_
    refine zAloadN d_X1_doAgain_55 rfl rfl (q := 56) rfl ?_
    refine zGetI d_X1_doAgain_56 ff_X1_24 sh_31 (by decide) (q := 59) rfl ?_
    refine zIsub d_X1_doAgain_59 (q := 60) rfl ?_
    refine zIret d_X1_doAgain_60 rfl rfl rfl ?_
    refine ⟨_, rfl, Or.inr ⟨hlt, ?_, rfl⟩⟩
    show I 31 5 - nI (dn + 1) = _
    rw [hal, pk_sub (by omega)]
theorem sp_X1_forgetOldest (hd : 2 ≤ d) : zSp g l d 100 m_X1_forgetOldest [.ref 31] (zU I L fs) (zV (fun w => w = zU (zForg I) L fs)) := by
  refine zSp_of (lv := [(0, .ref 31)]) k_X1_forgetOldest rfl (Nat.le_of_ble_eq_true rfl) ?_
  refine zAloadN d_X1_forgetOldest_0 rfl rfl (q := 1) rfl ?_
  refine zGetR d_X1_forgetOldest_1 ff_X1_11 sh_31 (by decide) r_31_0 (q := 4) rfl ?_
  refine zIconst d_X1_forgetOldest_4 (v := 1) ic_1 (q := 5) rfl ?_
  refine zAloadN d_X1_forgetOldest_5 rfl rfl (q := 6) rfl ?_
  refine zGetR d_X1_forgetOldest_6 ff_X1_11 sh_31 (by decide) r_31_0 (q := 9) rfl ?_
  refine zIconst d_X1_forgetOldest_9 (v := 0) ic_0 (q := 10) rfl ?_
  refine zBipush d_X1_forgetOldest_10 (v := 39) bc_39 (q := 12) rfl ?_
  refine zCopyI (i := 1) (j := 0) (k := 39) d_X1_forgetOldest_12 ml_X1_34 sh_32 (by decide) sh_32 (by decide) rfl rfl rfl (by decide) (by decide) hd (by decide) (q := 15) rfl ?_
  refine zAloadN d_X1_forgetOldest_15 rfl rfl (q := 16) rfl ?_
  refine zGetR d_X1_forgetOldest_16 ff_X1_15 sh_31 (by decide) r_31_1 (q := 19) rfl ?_
  refine zIconst d_X1_forgetOldest_19 (v := 1) ic_1 (q := 20) rfl ?_
  refine zAloadN d_X1_forgetOldest_20 rfl rfl (q := 21) rfl ?_
  refine zGetR d_X1_forgetOldest_21 ff_X1_15 sh_31 (by decide) r_31_1 (q := 24) rfl ?_
  refine zIconst d_X1_forgetOldest_24 (v := 0) ic_0 (q := 25) rfl ?_
  refine zBipush d_X1_forgetOldest_25 (v := 39) bc_39 (q := 27) rfl ?_
  refine zCopyI (i := 1) (j := 0) (k := 39) d_X1_forgetOldest_27 ml_X1_34 sh_33 (by decide) sh_33 (by decide) rfl rfl rfl (by decide) (by decide) hd (by decide) (q := 30) rfl ?_
  refine zAloadN d_X1_forgetOldest_30 rfl rfl (q := 31) rfl ?_
  refine zGetR d_X1_forgetOldest_31 ff_X1_18 sh_31 (by decide) r_31_2 (q := 34) rfl ?_
  refine zIconst d_X1_forgetOldest_34 (v := 1) ic_1 (q := 35) rfl ?_
  refine zAloadN d_X1_forgetOldest_35 rfl rfl (q := 36) rfl ?_
  refine zGetR d_X1_forgetOldest_36 ff_X1_18 sh_31 (by decide) r_31_2 (q := 39) rfl ?_
  refine zIconst d_X1_forgetOldest_39 (v := 0) ic_0 (q := 40) rfl ?_
  refine zBipush d_X1_forgetOldest_40 (v := 39) bc_39 (q := 42) rfl ?_
  refine zCopyI (i := 1) (j := 0) (k := 39) d_X1_forgetOldest_42 ml_X1_34 sh_34 (by decide) sh_34 (by decide) rfl rfl rfl (by decide) (by decide) hd (by decide) (q := 45) rfl ?_
  refine zAloadN d_X1_forgetOldest_45 rfl rfl (q := 46) rfl ?_
  refine zGetR d_X1_forgetOldest_46 ff_X1_21 sh_31 (by decide) r_31_3 (q := 49) rfl ?_
  refine zIconst d_X1_forgetOldest_49 (v := 1) ic_1 (q := 50) rfl ?_
  refine zAloadN d_X1_forgetOldest_50 rfl rfl (q := 51) rfl ?_
  refine zGetR d_X1_forgetOldest_51 ff_X1_21 sh_31 (by decide) r_31_3 (q := 54) rfl ?_
  refine zIconst d_X1_forgetOldest_54 (v := 0) ic_0 (q := 55) rfl ?_
  refine zBipush d_X1_forgetOldest_55 (v := 39) bc_39 (q := 57) rfl ?_
  refine zCopyI (i := 1) (j := 0) (k := 39) d_X1_forgetOldest_57 ml_X1_34 sh_35 (by decide) sh_35 (by decide) rfl rfl rfl (by decide) (by decide) hd (by decide) (q := 60) rfl ?_
  refine zAloadN d_X1_forgetOldest_60 rfl rfl (q := 61) rfl ?_
  refine zBipush d_X1_forgetOldest_61 (v := 39) bc_39 (q := 63) rfl ?_
  refine zPutI d_X1_forgetOldest_63 ff_X1_24 rfl rfl rfl sh_31 (by decide) (q := 66) rfl ?_
  refine zVret d_X1_forgetOldest_66 rfl rfl ?_
  exact ⟨rfl, rfl⟩
theorem sp_X1_add (hd : 3 ≤ d) {dn : Nat} (hdn : I 31 4 = nI dn) (h40 : dn ≤ 40) {c o f t : Int32} : zSp g l d 100 m_X1_add [.ref 31, .int c, .int o, .int f, .int t] (zU I L fs) (zV (fun w => w = zU (zChg I dn c o f t) L fs)) := by
  have tail : ∀ (I : Nat → Nat → Int32) (k : Nat), I 31 4 = nI k → k < 40 → zA g l d m_X1_add I L fs 13 [(0, .ref 31), (1, .int c), (2, .int o), (3, .int f), (4, .int t)] (zV (fun w => w = zU (zChgW I k c o f t) L fs)) := by
    intro I k hk hk40
    refine zAloadN d_X1_add_13 rfl rfl (q := 14) rfl ?_
    refine zGetR d_X1_add_14 ff_X1_11 sh_31 (by decide) r_31_0 (q := 17) rfl ?_
    refine zAloadN d_X1_add_17 rfl rfl (q := 18) rfl ?_
    refine zGetI d_X1_add_18 ff_X1_24 sh_31 (by decide) (q := 21) rfl ?_
    refine zIloadN d_X1_add_21 rfl rfl (q := 22) rfl ?_
    refine zIast d_X1_add_22 sh_32 (by decide) hk hk40 (q := 23) rfl ?_
    refine zAloadN d_X1_add_23 rfl rfl (q := 24) rfl ?_
    refine zGetR d_X1_add_24 ff_X1_15 sh_31 (by decide) r_31_1 (q := 27) rfl ?_
    refine zAloadN d_X1_add_27 rfl rfl (q := 28) rfl ?_
    refine zGetI d_X1_add_28 ff_X1_24 sh_31 (by decide) (q := 31) rfl ?_
    refine zIloadN d_X1_add_31 rfl rfl (q := 32) rfl ?_
    refine zIast d_X1_add_32 sh_33 (by decide) hk hk40 (q := 33) rfl ?_
    refine zAloadN d_X1_add_33 rfl rfl (q := 34) rfl ?_
    refine zGetR d_X1_add_34 ff_X1_18 sh_31 (by decide) r_31_2 (q := 37) rfl ?_
    refine zAloadN d_X1_add_37 rfl rfl (q := 38) rfl ?_
    refine zGetI d_X1_add_38 ff_X1_24 sh_31 (by decide) (q := 41) rfl ?_
    refine zIloadN d_X1_add_41 rfl rfl (q := 42) rfl ?_
    refine zIast d_X1_add_42 sh_34 (by decide) hk hk40 (q := 43) rfl ?_
    refine zAloadN d_X1_add_43 rfl rfl (q := 44) rfl ?_
    refine zGetR d_X1_add_44 ff_X1_21 sh_31 (by decide) r_31_3 (q := 47) rfl ?_
    refine zAloadN d_X1_add_47 rfl rfl (q := 48) rfl ?_
    refine zGetI d_X1_add_48 ff_X1_24 sh_31 (by decide) (q := 51) rfl ?_
    refine zIload d_X1_add_51 rfl (q := 53) rfl ?_
    refine zIast d_X1_add_53 sh_35 (by decide) hk hk40 (q := 54) rfl ?_
    refine zAloadN d_X1_add_54 rfl rfl (q := 55) rfl ?_
    refine zDup d_X1_add_55 rfl (q := 56) rfl ?_
    refine zGetI d_X1_add_56 ff_X1_24 sh_31 (by decide) (q := 59) rfl ?_
    refine zIconst d_X1_add_59 (v := 1) ic_1 (q := 60) rfl ?_
    refine zIadd d_X1_add_60 (q := 61) rfl ?_
    refine zPutI d_X1_add_61 ff_X1_24 rfl rfl rfl sh_31 (by decide) (q := 64) rfl ?_
    rw [show (zup (zup (zup (zup I 32 (zup (I 32) k c)) 33 (zup ((zup I 32 (zup (I 32) k c)) 33) k o)) 34 (zup ((zup (zup I 32 (zup (I 32) k c)) 33 (zup ((zup I 32 (zup (I 32) k c)) 33) k o)) 34) k f)) 35 (zup ((zup (zup (zup I 32 (zup (I 32) k c)) 33 (zup ((zup I 32 (zup (I 32) k c)) 33) k o)) 34 (zup ((zup (zup I 32 (zup (I 32) k c)) 33 (zup ((zup I 32 (zup (I 32) k c)) 33) k o)) 34) k f)) 35) k t)) 31 4 = nI k from hk, nI_1]
    refine zAloadN d_X1_add_64 rfl rfl (q := 65) rfl ?_
    refine zAloadN d_X1_add_65 rfl rfl (q := 66) rfl ?_
    refine zGetI d_X1_add_66 ff_X1_24 sh_31 (by decide) (q := 69) rfl ?_
    refine zPutI d_X1_add_69 ff_X1_31 rfl rfl rfl sh_31 (by decide) (q := 72) rfl ?_
    refine zVret d_X1_add_72 rfl rfl ?_
    exact ⟨rfl, by rw [zup_zup, zup_eq]; rfl⟩
  refine zSp_of (lv := [(0, .ref 31), (1, .int c), (2, .int o), (3, .int f), (4, .int t)]) k_X1_add rfl (Nat.le_of_ble_eq_true rfl) ?_
  refine zAloadN d_X1_add_0 rfl rfl (q := 1) rfl ?_
  refine zGetI d_X1_add_1 ff_X1_24 sh_31 (by decide) (q := 4) rfl ?_
  refine zBipush d_X1_add_4 (v := 40) bc_40 (q := 6) rfl ?_
  refine zIcmp_lt d_X1_add_6 (tgt := 13) (q := 9) (by decide) rfl (fun h6 => ?_) (fun h6 => ?_)
  · have hlt : dn < 40 := by rw [hdn] at h6; exact nlt (b := 40) h6
    have e : zChg I dn c o f t = zChgW I dn c o f t := if_neg (by omega)
    rw [e]
    refine zSub [0, 1, 2, 3, 4] rfl ?_
    first | exact tail _ _ hdn hlt | exact tail _ 39 rfl (by decide)
  · have e40 : dn = 40 := by rw [hdn] at h6; have := nnlt (b := 40) h6; omega
    have e : zChg I dn c o f t = zChgW (zForg I) 39 c o f t := if_pos e40
    rw [e]
    refine zAloadN d_X1_add_9 rfl rfl (q := 10) rfl ?_
    refine zCallVV d_X1_add_10 ml_X1_28 k_X1_forgetOldest ki_X1_forgetOldest ks_X1_forgetOldest (sp_X1_forgetOldest (d := d - 1) (by omega)) rfl rfl sh_31 (by decide) rfl (by decide) (Nat.le_of_ble_eq_true rfl) (by decide) (by omega) zns100 (q := 13) rfl (fun w' hw' => ?_)
    subst hw'
    refine zSub [0, 1, 2, 3, 4] rfl ?_
    first | exact tail _ _ hdn hlt | exact tail _ 39 rfl (by decide)
theorem sp_X5_takeOf (hd : 5 ≤ d) (hK : zSky I ns nt nh) : zSp g l d 100 m_X5_takeOf [.ref 36, .ref 1] (zU I L fs) (zV (fun w => w = zU (zTakeI I ns) L fs)) := by
  have hk : ∀ f, zSky (zup I 36 f) ns nt nh := fun f => zSky_up hK (by decide)
  refine zSp_of (lv := [(0, .ref 36), (1, .ref 1)]) k_X5_takeOf rfl (Nat.le_of_ble_eq_true rfl) ?_
  refine zAloadN d_X5_takeOf_0 rfl rfl (q := 1) rfl ?_
  refine zAloadN d_X5_takeOf_1 rfl rfl (q := 2) rfl ?_
  refine zIconst d_X5_takeOf_2 (v := 4) ic_4 (q := 3) rfl ?_
  refine zCallVP d_X5_takeOf_3 ml_X5_15 k_X9_bits ki_X9_bits ks_X9_bits (sp_X9_bits4 (d := d - 1) (by omega) hK) rfl rfl sh_1 (by decide) rfl (by decide) (Nat.le_of_ble_eq_true rfl) (by decide) (by omega) zns100 (q := 6) rfl ?_
  refine zPutI d_X5_takeOf_6 ff_X5_19 rfl rfl rfl sh_36 (by decide) (q := 9) rfl ?_
  refine zAloadN d_X5_takeOf_9 rfl rfl (q := 10) rfl ?_
  refine zAloadN d_X5_takeOf_10 rfl rfl (q := 11) rfl ?_
  refine zIconst d_X5_takeOf_11 (v := 5) ic_5 (q := 12) rfl ?_
  refine zCallVP d_X5_takeOf_12 ml_X5_15 k_X9_bits ki_X9_bits ks_X9_bits (sp_X9_bits5 (d := d - 1) (by omega) (hk _)) rfl rfl sh_1 (by decide) rfl (by decide) (Nat.le_of_ble_eq_true rfl) (by decide) (by omega) zns100 (q := 15) rfl ?_
  refine zPutI d_X5_takeOf_15 ff_X5_23 rfl rfl rfl sh_36 (by decide) (q := 18) rfl ?_
  rw [zup_zup, zup_eq]
  refine zAloadN d_X5_takeOf_18 rfl rfl (q := 19) rfl ?_
  refine zAloadN d_X5_takeOf_19 rfl rfl (q := 20) rfl ?_
  refine zGetI d_X5_takeOf_20 ff_X5_26 sh_1 (by decide) (q := 23) rfl ?_
  refine zPutI d_X5_takeOf_23 ff_X5_29 rfl rfl rfl sh_36 (by decide) (q := 26) rfl ?_
  rw [zup_zup, zup_eq, show (zup I 36 (zup (zup (I 36) 1 (zbits (I 7) ns)) 2 (zbits ((zup I 36 (zup (I 36) 1 (zbits (I 7) ns))) 8) ns))) 1 3 = nI ns from hK.1.1]
  refine zAloadN d_X5_takeOf_26 rfl rfl (q := 27) rfl ?_
  refine zAloadN d_X5_takeOf_27 rfl rfl (q := 28) rfl ?_
  refine zBipush d_X5_takeOf_28 (v := 9) bc_9 (q := 30) rfl ?_
  refine zIconst d_X5_takeOf_30 (v := 0) ic_0 (q := 31) rfl ?_
  refine zCallVP d_X5_takeOf_31 ml_X5_30 k_X9_get ki_X9_get ks_X9_get (sp_get9 (d := d - 1) (by omega) (hk _)) rfl rfl sh_1 (by decide) rfl (by decide) (Nat.le_of_ble_eq_true rfl) (by decide) (by omega) zns100 (q := 34) rfl ?_
  refine zPutI d_X5_takeOf_34 ff_X5_34 rfl rfl rfl sh_36 (by decide) (q := 37) rfl ?_
  rw [zup_zup, zup_eq]
  refine zAloadN d_X5_takeOf_37 rfl rfl (q := 38) rfl ?_
  refine zAloadN d_X5_takeOf_38 rfl rfl (q := 39) rfl ?_
  refine zBipush d_X5_takeOf_39 (v := 11) bc_11 (q := 41) rfl ?_
  refine zIconst d_X5_takeOf_41 (v := 0) ic_0 (q := 42) rfl ?_
  refine zCallVP d_X5_takeOf_42 ml_X5_30 k_X9_get ki_X9_get ks_X9_get (sp_get11 (d := d - 1) (by omega) (hk _)) rfl rfl sh_1 (by decide) rfl (by decide) (Nat.le_of_ble_eq_true rfl) (by decide) (by omega) zns100 (q := 45) rfl ?_
  refine zPutI d_X5_takeOf_45 ff_X5_37 rfl rfl rfl sh_36 (by decide) (q := 48) rfl ?_
  rw [zup_zup, zup_eq]
  refine zAloadN d_X5_takeOf_48 rfl rfl (q := 49) rfl ?_
  refine zGetR d_X5_takeOf_49 ff_X5_40 sh_1 (by decide) r_1_2 (q := 52) rfl ?_
  refine zIconst d_X5_takeOf_52 (v := 0) ic_0 (q := 53) rfl ?_
  refine zAloadN d_X5_takeOf_53 rfl rfl (q := 54) rfl ?_
  refine zGetR d_X5_takeOf_54 ff_X5_9 sh_36 (by decide) r_36_0 (q := 57) rfl ?_
  refine zIconst d_X5_takeOf_57 (v := 0) ic_0 (q := 58) rfl ?_
  refine zIconst d_X5_takeOf_58 (v := 5) ic_5 (q := 59) rfl ?_
  refine zCopyI (i := 0) (j := 0) (k := 5) d_X5_takeOf_59 ml_X5_41 sh_15 (by decide) sh_37 (by decide) rfl rfl rfl (by decide) (by decide) (by omega) (by decide) (q := 62) rfl ?_
  refine zAloadN d_X5_takeOf_62 rfl rfl (q := 63) rfl ?_
  refine zIconst d_X5_takeOf_63 (v := 1) ic_1 (q := 64) rfl ?_
  refine zPutI d_X5_takeOf_64 ff_X5_47 rfl rfl rfl sh_36 (by decide) (q := 67) rfl ?_
  refine zVret d_X5_takeOf_67 rfl rfl ?_
  exact ⟨rfl, by rw [zup_3 (by decide), zup_comm (show (36 : Nat) ≠ 37 by decide)]; rfl⟩
theorem sp_X5_layOn (hd : 4 ≤ d) (hK : zSky I ns nt nh) {ks : Nat} (hks : I 36 3 = nI ks) (hle : ks ≤ ns) : zSp g l d 100 m_X5_layOn [.ref 36, .ref 1] (zU I L fs) (zV (fun w => w = zU (zBackI I ks) L fs)) := by
  have hn := hK.2.1
  have loop : ∀ k, k ≤ ks → ∀ f f2, zBitF (I 36 1) f ks k = zBitF (I 36 1) (I 7) ks 0 → zBitF (I 36 2) f2 ks k = zBitF (I 36 2) (I 8) ks 0 → zA g l d m_X5_layOn (zup (zup I 7 f) 8 f2) L fs 2 [(2, .int (nI k)), (0, .ref 36), (1, .ref 1)] (zV (fun w => w = zU (zBackI I ks) L fs)) := by
    refine zloop ks (fun k hk ih f f2 hx hy => ?_)
    have hK1 : zSky (zup (zup I 7 f) 8 f2) ns nt nh := zSky_up (zSky_up hK (by decide)) (by decide)
    refine zIloadN d_X5_layOn_2 rfl rfl (q := 3) rfl ?_
    refine zAloadN d_X5_layOn_3 rfl rfl (q := 4) rfl ?_
    refine zGetI d_X5_layOn_4 ff_X5_29 sh_36 (by decide) (q := 7) rfl ?_
    refine zIcmp_ge d_X5_layOn_7 (tgt := 44) (q := 10) (by decide) rfl (fun h7 => ?_) (fun h7 => ?_)
    · have e : ks ≤ k := nle (show nI ks ≤ nI k from hks ▸ h7)
      have e1 : f = zBitF (I 36 1) (I 7) ks 0 := by rw [← hx]; unfold zBitF; rw [zfor_end e]
      have e2 : f2 = zBitF (I 36 2) (I 8) ks 0 := by rw [← hy]; unfold zBitF; rw [zfor_end e]
      refine zAloadN d_X5_layOn_44 rfl rfl (q := 45) rfl ?_
      refine zBipush d_X5_layOn_45 (v := 9) bc_9 (q := 47) rfl ?_
      refine zIconst d_X5_layOn_47 (v := 0) ic_0 (q := 48) rfl ?_
      refine zAloadN d_X5_layOn_48 rfl rfl (q := 49) rfl ?_
      refine zGetI d_X5_layOn_49 ff_X5_34 sh_36 (by decide) (q := 52) rfl ?_
      refine zCallVV d_X5_layOn_52 ml_X5_51 k_X9_set ki_X9_set ks_X9_set (sp_set9 (d := d - 1) (by omega) hK1) rfl rfl sh_1 (by decide) rfl (by decide) (Nat.le_of_ble_eq_true rfl) (by decide) (by omega) zns100 (q := 55) rfl (fun w' hw' => ?_)
      subst hw'
      refine zAloadN d_X5_layOn_55 rfl rfl (q := 56) rfl ?_
      refine zBipush d_X5_layOn_56 (v := 11) bc_11 (q := 58) rfl ?_
      refine zIconst d_X5_layOn_58 (v := 0) ic_0 (q := 59) rfl ?_
      refine zAloadN d_X5_layOn_59 rfl rfl (q := 60) rfl ?_
      refine zGetI d_X5_layOn_60 ff_X5_37 sh_36 (by decide) (q := 63) rfl ?_
      refine zCallVV d_X5_layOn_63 ml_X5_51 k_X9_set ki_X9_set ks_X9_set (sp_set11 (d := d - 1) (by omega) (ns := ns) (nt := nt) (nh := nh) (zSky_up hK1 (by decide))) rfl rfl sh_1 (by decide) rfl (by decide) (Nat.le_of_ble_eq_true rfl) (by decide) (by omega) zns100 (q := 66) rfl (fun w' hw' => ?_)
      subst hw'
      refine zAloadN d_X5_layOn_66 rfl rfl (q := 67) rfl ?_
      refine zGetR d_X5_layOn_67 ff_X5_9 sh_36 (by decide) r_36_0 (q := 70) rfl ?_
      refine zIconst d_X5_layOn_70 (v := 0) ic_0 (q := 71) rfl ?_
      refine zAloadN d_X5_layOn_71 rfl rfl (q := 72) rfl ?_
      refine zGetR d_X5_layOn_72 ff_X5_40 sh_1 (by decide) r_1_2 (q := 75) rfl ?_
      refine zIconst d_X5_layOn_75 (v := 0) ic_0 (q := 76) rfl ?_
      refine zIconst d_X5_layOn_76 (v := 5) ic_5 (q := 77) rfl ?_
      refine zCopyI (i := 0) (j := 0) (k := 5) d_X5_layOn_77 ml_X5_41 sh_37 (by decide) sh_15 (by decide) rfl rfl rfl (by decide) (by decide) (by omega) (by decide) (q := 80) rfl ?_
      refine zVret d_X5_layOn_80 rfl rfl ?_
      exact ⟨rfl, by rw [e1, e2]; rfl⟩
    · have hlt : k < ks := nnle (show ¬ nI ks ≤ nI k from hks ▸ h7)
      unfold zBitF at hx hy
      rw [zfor_step hlt] at hx hy
      refine zAloadN d_X5_layOn_10 rfl rfl (q := 11) rfl ?_
      refine zIconst d_X5_layOn_11 (v := 4) ic_4 (q := 12) rfl ?_
      refine zIloadN d_X5_layOn_12 rfl rfl (q := 13) rfl ?_
      refine zAloadN d_X5_layOn_13 rfl rfl (q := 14) rfl ?_
      refine zGetI d_X5_layOn_14 ff_X5_19 sh_36 (by decide) (q := 17) rfl ?_
      refine zIloadN d_X5_layOn_17 rfl rfl (q := 18) rfl ?_
      refine zIshr d_X5_layOn_18 (q := 19) rfl ?_
      refine zIconst d_X5_layOn_19 (v := 1) ic_1 (q := 20) rfl ?_
      refine zIand d_X5_layOn_20 (q := 21) rfl ?_
      refine zCallVV d_X5_layOn_21 ml_X5_51 k_X9_set ki_X9_set ks_X9_set (sp_set4 (d := d - 1) (by omega) hK1 (k := k) (by omega)) rfl rfl sh_1 (by decide) rfl (by decide) (Nat.le_of_ble_eq_true rfl) (by decide) (by omega) zns100 (q := 24) rfl (fun w' hw' => ?_)
      subst hw'
      rw [zup_3 (show (7 : Nat) ≠ 8 by decide), zup_ne (f := zup I 7 f) (show (7 : Nat) ≠ 8 by decide), zup_eq]
      refine zAloadN d_X5_layOn_24 rfl rfl (q := 25) rfl ?_
      refine zIconst d_X5_layOn_25 (v := 5) ic_5 (q := 26) rfl ?_
      refine zIloadN d_X5_layOn_26 rfl rfl (q := 27) rfl ?_
      refine zAloadN d_X5_layOn_27 rfl rfl (q := 28) rfl ?_
      refine zGetI d_X5_layOn_28 ff_X5_23 sh_36 (by decide) (q := 31) rfl ?_
      refine zIloadN d_X5_layOn_31 rfl rfl (q := 32) rfl ?_
      refine zIshr d_X5_layOn_32 (q := 33) rfl ?_
      refine zIconst d_X5_layOn_33 (v := 1) ic_1 (q := 34) rfl ?_
      refine zIand d_X5_layOn_34 (q := 35) rfl ?_
      refine zCallVV d_X5_layOn_35 ml_X5_51 k_X9_set ki_X9_set ks_X9_set (sp_set5 (d := d - 1) (by omega) (ns := ns) (nt := nt) (nh := nh) (zSky_up (zSky_up hK (by decide)) (by decide)) (k := k) (by omega)) rfl rfl sh_1 (by decide) rfl (by decide) (Nat.le_of_ble_eq_true rfl) (by decide) (by omega) zns100 (q := 38) rfl (fun w' hw' => ?_)
      subst hw'
      rw [zup_zup, zup_eq]
      refine zIinc d_X5_layOn_38 rfl (zinc _) (by decide) rfl (q := 41) rfl ?_
      refine zGoto d_X5_layOn_41 (q := 2) (by decide) ?_
      refine zSub [0, 1, 2] rfl ?_
      exact ih hlt _ _ hx hy
  have e0 : zup (zup I 7 (I 7)) 8 (I 8) = I := by rw [zup_self, zup_self]
  have h0 := loop 0 (Nat.zero_le _) (I 7) (I 8) rfl rfl
  rw [e0] at h0
  refine zSp_of (lv := [(0, .ref 36), (1, .ref 1)]) k_X5_layOn rfl (Nat.le_of_ble_eq_true rfl) ?_
  refine zIconst d_X5_layOn_0 (v := 0) ic_0 (q := 1) rfl ?_
  refine zIstoreN d_X5_layOn_1 rfl (by decide) rfl (q := 2) rfl ?_
  refine zSub [0, 1, 2] rfl ?_
  exact h0
end S12

