theorem d_X12_allSteer_0 : decode (zmc m_X12_allSteer) 0 = .ok (.aload_n 0, 1) := by decide +kernel
theorem d_X12_allSteer_1 : decode (zmc m_X12_allSteer) 1 = .ok (.iload_n 1, 1) := by decide +kernel
theorem d_X12_allSteer_2 : decode (zmc m_X12_allSteer) 2 = .ok (.invokevirtual 324, 3) := by decide +kernel
theorem d_X12_allSteer_5 : decode (zmc m_X12_allSteer) 5 = .ok (.iconst 1, 1) := by decide +kernel
theorem d_X12_allSteer_6 : decode (zmc m_X12_allSteer) 6 = .ok (.aload_n 0, 1) := by decide +kernel
theorem d_X12_allSteer_7 : decode (zmc m_X12_allSteer) 7 = .ok (.getfield 157, 3) := by decide +kernel
theorem d_X12_allSteer_10 : decode (zmc m_X12_allSteer) 10 = .ok (.ishl, 1) := by decide +kernel
theorem d_X12_allSteer_11 : decode (zmc m_X12_allSteer) 11 = .ok (.iconst 1, 1) := by decide +kernel
theorem d_X12_allSteer_12 : decode (zmc m_X12_allSteer) 12 = .ok (.isub, 1) := by decide +kernel
theorem d_X12_allSteer_13 : decode (zmc m_X12_allSteer) 13 = .ok (.if_icmp .ne 7, 3) := by decide +kernel
theorem d_X12_allSteer_16 : decode (zmc m_X12_allSteer) 16 = .ok (.iconst 1, 1) := by decide +kernel
theorem d_X12_allSteer_17 : decode (zmc m_X12_allSteer) 17 = .ok (.goto 4, 3) := by decide +kernel
theorem d_X12_allSteer_20 : decode (zmc m_X12_allSteer) 20 = .ok (.iconst 0, 1) := by decide +kernel
theorem d_X12_allSteer_21 : decode (zmc m_X12_allSteer) 21 = .ok (.ireturn, 1) := by decide +kernel
theorem d_X12_areSafe_0 : decode (zmc m_X12_areSafe) 0 = .ok (.iconst 0, 1) := by decide +kernel
theorem d_X12_areSafe_1 : decode (zmc m_X12_areSafe) 1 = .ok (.istore_n 2, 1) := by decide +kernel
theorem d_X12_areSafe_2 : decode (zmc m_X12_areSafe) 2 = .ok (.iload_n 2, 1) := by decide +kernel
theorem d_X12_areSafe_3 : decode (zmc m_X12_areSafe) 3 = .ok (.aload_n 0, 1) := by decide +kernel
theorem d_X12_areSafe_4 : decode (zmc m_X12_areSafe) 4 = .ok (.getfield 124, 3) := by decide +kernel
theorem d_X12_areSafe_7 : decode (zmc m_X12_areSafe) 7 = .ok (.if_icmp .ge 33, 3) := by decide +kernel
theorem d_X12_areSafe_10 : decode (zmc m_X12_areSafe) 10 = .ok (.iload_n 1, 1) := by decide +kernel
theorem d_X12_areSafe_11 : decode (zmc m_X12_areSafe) 11 = .ok (.iload_n 2, 1) := by decide +kernel
theorem d_X12_areSafe_12 : decode (zmc m_X12_areSafe) 12 = .ok (.invokestatic 327, 3) := by decide +kernel
theorem d_X12_areSafe_15 : decode (zmc m_X12_areSafe) 15 = .ok (.ifCond .eq 19, 3) := by decide +kernel
theorem d_X12_areSafe_18 : decode (zmc m_X12_areSafe) 18 = .ok (.aload_n 0, 1) := by decide +kernel
theorem d_X12_areSafe_19 : decode (zmc m_X12_areSafe) 19 = .ok (.iload_n 1, 1) := by decide +kernel
theorem d_X12_areSafe_20 : decode (zmc m_X12_areSafe) 20 = .ok (.iconst 1, 1) := by decide +kernel
theorem d_X12_areSafe_21 : decode (zmc m_X12_areSafe) 21 = .ok (.iload_n 2, 1) := by decide +kernel
theorem d_X12_areSafe_22 : decode (zmc m_X12_areSafe) 22 = .ok (.ishl, 1) := by decide +kernel
theorem d_X12_areSafe_23 : decode (zmc m_X12_areSafe) 23 = .ok (.iconst (-1), 1) := by decide +kernel
theorem d_X12_areSafe_24 : decode (zmc m_X12_areSafe) 24 = .ok (.ixor, 1) := by decide +kernel
theorem d_X12_areSafe_25 : decode (zmc m_X12_areSafe) 25 = .ok (.iand, 1) := by decide +kernel
theorem d_X12_areSafe_26 : decode (zmc m_X12_areSafe) 26 = .ok (.invokevirtual 330, 3) := by decide +kernel
theorem d_X12_areSafe_29 : decode (zmc m_X12_areSafe) 29 = .ok (.ifCond .ne 5, 3) := by decide +kernel
theorem d_X12_areSafe_32 : decode (zmc m_X12_areSafe) 32 = .ok (.iconst 0, 1) := by decide +kernel
theorem d_X12_areSafe_33 : decode (zmc m_X12_areSafe) 33 = .ok (.ireturn, 1) := by decide +kernel
theorem d_X12_areSafe_34 : decode (zmc m_X12_areSafe) 34 = .ok (.iinc 2 1, 3) := by decide +kernel
theorem d_X12_areSafe_37 : decode (zmc m_X12_areSafe) 37 = .ok (.goto (-35), 3) := by decide +kernel
theorem d_X12_areSafe_40 : decode (zmc m_X12_areSafe) 40 = .ok (.aload_n 0, 1) := by decide +kernel
theorem d_X12_areSafe_41 : decode (zmc m_X12_areSafe) 41 = .ok (.iload_n 1, 1) := by decide +kernel
theorem d_X12_areSafe_42 : decode (zmc m_X12_areSafe) 42 = .ok (.invokevirtual 330, 3) := by decide +kernel
theorem d_X12_areSafe_45 : decode (zmc m_X12_areSafe) 45 = .ok (.ireturn, 1) := by decide +kernel
theorem d_X12_brightIn_0 : decode (zmc m_X12_brightIn) 0 = .ok (.iconst 0, 1) := by decide +kernel
theorem d_X12_brightIn_1 : decode (zmc m_X12_brightIn) 1 = .ok (.istore_n 3, 1) := by decide +kernel
theorem d_X12_brightIn_2 : decode (zmc m_X12_brightIn) 2 = .ok (.iconst 0, 1) := by decide +kernel
theorem d_X12_brightIn_3 : decode (zmc m_X12_brightIn) 3 = .ok (.istore 4, 2) := by decide +kernel
theorem d_X12_brightIn_5 : decode (zmc m_X12_brightIn) 5 = .ok (.iload 4, 2) := by decide +kernel
theorem d_X12_brightIn_7 : decode (zmc m_X12_brightIn) 7 = .ok (.aload_n 0, 1) := by decide +kernel
theorem d_X12_brightIn_8 : decode (zmc m_X12_brightIn) 8 = .ok (.getfield 124, 3) := by decide +kernel
theorem d_X12_brightIn_11 : decode (zmc m_X12_brightIn) 11 = .ok (.if_icmp .ge 44, 3) := by decide +kernel
theorem d_X12_brightIn_14 : decode (zmc m_X12_brightIn) 14 = .ok (.aload_n 0, 1) := by decide +kernel
theorem d_X12_brightIn_15 : decode (zmc m_X12_brightIn) 15 = .ok (.getfield 24, 3) := by decide +kernel
theorem d_X12_brightIn_18 : decode (zmc m_X12_brightIn) 18 = .ok (.iload 4, 2) := by decide +kernel
theorem d_X12_brightIn_20 : decode (zmc m_X12_brightIn) 20 = .ok (.iaload, 1) := by decide +kernel
theorem d_X12_brightIn_21 : decode (zmc m_X12_brightIn) 21 = .ok (.iconst 1, 1) := by decide +kernel
theorem d_X12_brightIn_22 : decode (zmc m_X12_brightIn) 22 = .ok (.if_icmp .ne 27, 3) := by decide +kernel
theorem d_X12_brightIn_25 : decode (zmc m_X12_brightIn) 25 = .ok (.aload_n 0, 1) := by decide +kernel
theorem d_X12_brightIn_26 : decode (zmc m_X12_brightIn) 26 = .ok (.iload 4, 2) := by decide +kernel
theorem d_X12_brightIn_28 : decode (zmc m_X12_brightIn) 28 = .ok (.invokevirtual 315, 3) := by decide +kernel
theorem d_X12_brightIn_31 : decode (zmc m_X12_brightIn) 31 = .ok (.iload_n 1, 1) := by decide +kernel
theorem d_X12_brightIn_32 : decode (zmc m_X12_brightIn) 32 = .ok (.iload_n 2, 1) := by decide +kernel
theorem d_X12_brightIn_33 : decode (zmc m_X12_brightIn) 33 = .ok (.invokestatic 127, 3) := by decide +kernel
theorem d_X12_brightIn_36 : decode (zmc m_X12_brightIn) 36 = .ok (.ifCond .eq 13, 3) := by decide +kernel
theorem d_X12_brightIn_39 : decode (zmc m_X12_brightIn) 39 = .ok (.iload_n 3, 1) := by decide +kernel
theorem d_X12_brightIn_40 : decode (zmc m_X12_brightIn) 40 = .ok (.aload_n 0, 1) := by decide +kernel
theorem d_X12_brightIn_41 : decode (zmc m_X12_brightIn) 41 = .ok (.getfield 15, 3) := by decide +kernel
theorem d_X12_brightIn_44 : decode (zmc m_X12_brightIn) 44 = .ok (.iload 4, 2) := by decide +kernel
theorem d_X12_brightIn_46 : decode (zmc m_X12_brightIn) 46 = .ok (.iaload, 1) := by decide +kernel
theorem d_X12_brightIn_47 : decode (zmc m_X12_brightIn) 47 = .ok (.iadd, 1) := by decide +kernel
theorem d_X12_brightIn_48 : decode (zmc m_X12_brightIn) 48 = .ok (.istore_n 3, 1) := by decide +kernel
theorem d_X12_brightIn_49 : decode (zmc m_X12_brightIn) 49 = .ok (.iinc 4 1, 3) := by decide +kernel
theorem d_X12_brightIn_52 : decode (zmc m_X12_brightIn) 52 = .ok (.goto (-47), 3) := by decide +kernel
theorem d_X12_brightIn_55 : decode (zmc m_X12_brightIn) 55 = .ok (.iload_n 3, 1) := by decide +kernel
theorem d_X12_brightIn_56 : decode (zmc m_X12_brightIn) 56 = .ok (.ireturn, 1) := by decide +kernel
theorem d_X12_downMany_0 : decode (zmc m_X12_downMany) 0 = .ok (.iconst 0, 1) := by decide +kernel
theorem d_X12_downMany_1 : decode (zmc m_X12_downMany) 1 = .ok (.istore_n 1, 1) := by decide +kernel
theorem d_X12_downMany_2 : decode (zmc m_X12_downMany) 2 = .ok (.iconst 0, 1) := by decide +kernel
theorem d_X12_downMany_3 : decode (zmc m_X12_downMany) 3 = .ok (.istore_n 2, 1) := by decide +kernel
theorem d_X12_downMany_4 : decode (zmc m_X12_downMany) 4 = .ok (.iload_n 2, 1) := by decide +kernel
theorem d_X12_downMany_5 : decode (zmc m_X12_downMany) 5 = .ok (.aload_n 0, 1) := by decide +kernel
theorem d_X12_downMany_6 : decode (zmc m_X12_downMany) 6 = .ok (.getfield 124, 3) := by decide +kernel
theorem d_X12_downMany_9 : decode (zmc m_X12_downMany) 9 = .ok (.if_icmp .ge 30, 3) := by decide +kernel
theorem d_X12_downMany_12 : decode (zmc m_X12_downMany) 12 = .ok (.aload_n 0, 1) := by decide +kernel
theorem d_X12_downMany_13 : decode (zmc m_X12_downMany) 13 = .ok (.getfield 24, 3) := by decide +kernel
theorem d_X12_downMany_16 : decode (zmc m_X12_downMany) 16 = .ok (.iload_n 2, 1) := by decide +kernel
theorem d_X12_downMany_17 : decode (zmc m_X12_downMany) 17 = .ok (.iaload, 1) := by decide +kernel
theorem d_X12_downMany_18 : decode (zmc m_X12_downMany) 18 = .ok (.ifCond .ne 15, 3) := by decide +kernel
theorem d_X12_downMany_21 : decode (zmc m_X12_downMany) 21 = .ok (.aload_n 0, 1) := by decide +kernel
theorem d_X12_downMany_22 : decode (zmc m_X12_downMany) 22 = .ok (.getfield 27, 3) := by decide +kernel
theorem d_X12_downMany_25 : decode (zmc m_X12_downMany) 25 = .ok (.iload_n 2, 1) := by decide +kernel
theorem d_X12_downMany_26 : decode (zmc m_X12_downMany) 26 = .ok (.iaload, 1) := by decide +kernel
theorem d_X12_downMany_27 : decode (zmc m_X12_downMany) 27 = .ok (.ifCond .ne 6, 3) := by decide +kernel
theorem d_X12_downMany_30 : decode (zmc m_X12_downMany) 30 = .ok (.iinc 1 1, 3) := by decide +kernel
theorem d_X12_downMany_33 : decode (zmc m_X12_downMany) 33 = .ok (.iinc 2 1, 3) := by decide +kernel
theorem d_X12_downMany_36 : decode (zmc m_X12_downMany) 36 = .ok (.goto (-32), 3) := by decide +kernel
theorem d_X12_downMany_39 : decode (zmc m_X12_downMany) 39 = .ok (.iload_n 1, 1) := by decide +kernel
theorem d_X12_downMany_40 : decode (zmc m_X12_downMany) 40 = .ok (.ireturn, 1) := by decide +kernel
theorem d_X12_drops_0 : decode (zmc m_X12_drops) 0 = .ok (.aload_n 0, 1) := by decide +kernel
theorem d_X12_drops_1 : decode (zmc m_X12_drops) 1 = .ok (.iload_n 1, 1) := by decide +kernel
theorem d_X12_drops_2 : decode (zmc m_X12_drops) 2 = .ok (.invokevirtual 134, 3) := by decide +kernel
theorem d_X12_drops_5 : decode (zmc m_X12_drops) 5 = .ok (.ifCond .ne 7, 3) := by decide +kernel
theorem d_X12_drops_8 : decode (zmc m_X12_drops) 8 = .ok (.iconst (-1), 1) := by decide +kernel
theorem d_X12_drops_9 : decode (zmc m_X12_drops) 9 = .ok (.goto 22, 3) := by decide +kernel
theorem d_X12_drops_12 : decode (zmc m_X12_drops) 12 = .ok (.aload_n 0, 1) := by decide +kernel
theorem d_X12_drops_13 : decode (zmc m_X12_drops) 13 = .ok (.getfield 24, 3) := by decide +kernel
theorem d_X12_drops_16 : decode (zmc m_X12_drops) 16 = .ok (.iload_n 1, 1) := by decide +kernel
theorem d_X12_drops_17 : decode (zmc m_X12_drops) 17 = .ok (.iaload, 1) := by decide +kernel
theorem d_X12_drops_18 : decode (zmc m_X12_drops) 18 = .ok (.ifCond .ne 8, 3) := by decide +kernel
theorem d_X12_drops_21 : decode (zmc m_X12_drops) 21 = .ok (.bipush (-2), 2) := by decide +kernel
theorem d_X12_drops_23 : decode (zmc m_X12_drops) 23 = .ok (.goto 8, 3) := by decide +kernel
theorem d_X12_drops_26 : decode (zmc m_X12_drops) 26 = .ok (.aload_n 0, 1) := by decide +kernel
theorem d_X12_drops_27 : decode (zmc m_X12_drops) 27 = .ok (.iload_n 1, 1) := by decide +kernel
theorem d_X12_drops_28 : decode (zmc m_X12_drops) 28 = .ok (.invokevirtual 303, 3) := by decide +kernel
theorem d_X12_drops_31 : decode (zmc m_X12_drops) 31 = .ok (.ireturn, 1) := by decide +kernel
theorem d_X12_dropsAt_0 : decode (zmc m_X12_dropsAt) 0 = .ok (.aload_n 0, 1) := by decide +kernel
theorem d_X12_dropsAt_1 : decode (zmc m_X12_dropsAt) 1 = .ok (.getfield 39, 3) := by decide +kernel
theorem d_X12_dropsAt_4 : decode (zmc m_X12_dropsAt) 4 = .ok (.iconst 1, 1) := by decide +kernel
theorem d_X12_dropsAt_5 : decode (zmc m_X12_dropsAt) 5 = .ok (.iaload, 1) := by decide +kernel
theorem d_X12_dropsAt_6 : decode (zmc m_X12_dropsAt) 6 = .ok (.iconst 3, 1) := by decide +kernel
theorem d_X12_dropsAt_7 : decode (zmc m_X12_dropsAt) 7 = .ok (.aload_n 0, 1) := by decide +kernel
theorem d_X12_dropsAt_8 : decode (zmc m_X12_dropsAt) 8 = .ok (.getfield 18, 3) := by decide +kernel
theorem d_X12_dropsAt_11 : decode (zmc m_X12_dropsAt) 11 = .ok (.iload_n 1, 1) := by decide +kernel
theorem d_X12_dropsAt_12 : decode (zmc m_X12_dropsAt) 12 = .ok (.iaload, 1) := by decide +kernel
theorem d_X12_dropsAt_13 : decode (zmc m_X12_dropsAt) 13 = .ok (.imul, 1) := by decide +kernel
theorem d_X12_dropsAt_14 : decode (zmc m_X12_dropsAt) 14 = .ok (.iadd, 1) := by decide +kernel
theorem d_X12_dropsAt_15 : decode (zmc m_X12_dropsAt) 15 = .ok (.aload_n 0, 1) := by decide +kernel
theorem d_X12_dropsAt_16 : decode (zmc m_X12_dropsAt) 16 = .ok (.getfield 21, 3) := by decide +kernel
theorem d_X12_dropsAt_19 : decode (zmc m_X12_dropsAt) 19 = .ok (.iload_n 1, 1) := by decide +kernel
theorem d_X12_dropsAt_20 : decode (zmc m_X12_dropsAt) 20 = .ok (.iaload, 1) := by decide +kernel
theorem d_X12_dropsAt_21 : decode (zmc m_X12_dropsAt) 21 = .ok (.iadd, 1) := by decide +kernel
theorem d_X12_dropsAt_22 : decode (zmc m_X12_dropsAt) 22 = .ok (.aload_n 0, 1) := by decide +kernel
theorem d_X12_dropsAt_23 : decode (zmc m_X12_dropsAt) 23 = .ok (.getfield 15, 3) := by decide +kernel
theorem d_X12_dropsAt_26 : decode (zmc m_X12_dropsAt) 26 = .ok (.iload_n 1, 1) := by decide +kernel
theorem d_X12_dropsAt_27 : decode (zmc m_X12_dropsAt) 27 = .ok (.iaload, 1) := by decide +kernel
theorem d_X12_dropsAt_28 : decode (zmc m_X12_dropsAt) 28 = .ok (.isub, 1) := by decide +kernel
theorem d_X12_dropsAt_29 : decode (zmc m_X12_dropsAt) 29 = .ok (.istore_n 2, 1) := by decide +kernel
theorem d_X12_dropsAt_30 : decode (zmc m_X12_dropsAt) 30 = .ok (.iload_n 2, 1) := by decide +kernel
theorem d_X12_dropsAt_31 : decode (zmc m_X12_dropsAt) 31 = .ok (.ifCond .ge 7, 3) := by decide +kernel
theorem d_X12_dropsAt_34 : decode (zmc m_X12_dropsAt) 34 = .ok (.iconst 0, 1) := by decide +kernel
theorem d_X12_dropsAt_35 : decode (zmc m_X12_dropsAt) 35 = .ok (.goto 4, 3) := by decide +kernel
theorem d_X12_dropsAt_38 : decode (zmc m_X12_dropsAt) 38 = .ok (.iload_n 2, 1) := by decide +kernel
theorem d_X12_dropsAt_39 : decode (zmc m_X12_dropsAt) 39 = .ok (.ireturn, 1) := by decide +kernel
theorem d_X12_firstDrop_0 : decode (zmc m_X12_firstDrop) 0 = .ok (.bipush (-2), 2) := by decide +kernel
theorem d_X12_firstDrop_2 : decode (zmc m_X12_firstDrop) 2 = .ok (.istore_n 1, 1) := by decide +kernel
theorem d_X12_firstDrop_3 : decode (zmc m_X12_firstDrop) 3 = .ok (.iconst 0, 1) := by decide +kernel
theorem d_X12_firstDrop_4 : decode (zmc m_X12_firstDrop) 4 = .ok (.istore_n 2, 1) := by decide +kernel
theorem d_X12_firstDrop_5 : decode (zmc m_X12_firstDrop) 5 = .ok (.iload_n 2, 1) := by decide +kernel
theorem d_X12_firstDrop_6 : decode (zmc m_X12_firstDrop) 6 = .ok (.aload_n 0, 1) := by decide +kernel
theorem d_X12_firstDrop_7 : decode (zmc m_X12_firstDrop) 7 = .ok (.getfield 124, 3) := by decide +kernel
theorem d_X12_firstDrop_10 : decode (zmc m_X12_firstDrop) 10 = .ok (.if_icmp .ge 38, 3) := by decide +kernel
theorem d_X12_firstDrop_13 : decode (zmc m_X12_firstDrop) 13 = .ok (.aload_n 0, 1) := by decide +kernel
theorem d_X12_firstDrop_14 : decode (zmc m_X12_firstDrop) 14 = .ok (.getfield 24, 3) := by decide +kernel
theorem d_X12_firstDrop_17 : decode (zmc m_X12_firstDrop) 17 = .ok (.iload_n 2, 1) := by decide +kernel
theorem d_X12_firstDrop_18 : decode (zmc m_X12_firstDrop) 18 = .ok (.iaload, 1) := by decide +kernel
theorem d_X12_firstDrop_19 : decode (zmc m_X12_firstDrop) 19 = .ok (.iconst 1, 1) := by decide +kernel
theorem d_X12_firstDrop_20 : decode (zmc m_X12_firstDrop) 20 = .ok (.if_icmp .ne 22, 3) := by decide +kernel
theorem d_X12_firstDrop_23 : decode (zmc m_X12_firstDrop) 23 = .ok (.iload_n 1, 1) := by decide +kernel
theorem d_X12_firstDrop_24 : decode (zmc m_X12_firstDrop) 24 = .ok (.ifCond .lt 16, 3) := by decide +kernel
theorem d_X12_firstDrop_27 : decode (zmc m_X12_firstDrop) 27 = .ok (.aload_n 0, 1) := by decide +kernel
theorem d_X12_firstDrop_28 : decode (zmc m_X12_firstDrop) 28 = .ok (.iload_n 2, 1) := by decide +kernel
theorem d_X12_firstDrop_29 : decode (zmc m_X12_firstDrop) 29 = .ok (.invokevirtual 303, 3) := by decide +kernel
theorem d_X12_firstDrop_32 : decode (zmc m_X12_firstDrop) 32 = .ok (.aload_n 0, 1) := by decide +kernel
theorem d_X12_firstDrop_33 : decode (zmc m_X12_firstDrop) 33 = .ok (.iload_n 1, 1) := by decide +kernel
theorem d_X12_firstDrop_34 : decode (zmc m_X12_firstDrop) 34 = .ok (.invokevirtual 303, 3) := by decide +kernel
theorem d_X12_firstDrop_37 : decode (zmc m_X12_firstDrop) 37 = .ok (.if_icmp .ge 5, 3) := by decide +kernel
theorem d_X12_firstDrop_40 : decode (zmc m_X12_firstDrop) 40 = .ok (.iload_n 2, 1) := by decide +kernel
theorem d_X12_firstDrop_41 : decode (zmc m_X12_firstDrop) 41 = .ok (.istore_n 1, 1) := by decide +kernel
theorem d_X12_firstDrop_42 : decode (zmc m_X12_firstDrop) 42 = .ok (.iinc 2 1, 3) := by decide +kernel
theorem d_X12_firstDrop_45 : decode (zmc m_X12_firstDrop) 45 = .ok (.goto (-40), 3) := by decide +kernel
theorem d_X12_firstDrop_48 : decode (zmc m_X12_firstDrop) 48 = .ok (.iload_n 1, 1) := by decide +kernel
theorem d_X12_firstDrop_49 : decode (zmc m_X12_firstDrop) 49 = .ok (.ireturn, 1) := by decide +kernel
theorem d_X12_lies_0 : decode (zmc m_X12_lies) 0 = .ok (.aload_n 0, 1) := by decide +kernel
theorem d_X12_lies_1 : decode (zmc m_X12_lies) 1 = .ok (.iload_n 1, 1) := by decide +kernel
theorem d_X12_lies_2 : decode (zmc m_X12_lies) 2 = .ok (.invokevirtual 134, 3) := by decide +kernel
theorem d_X12_lies_5 : decode (zmc m_X12_lies) 5 = .ok (.ifCond .eq 11, 3) := by decide +kernel
theorem d_X12_lies_8 : decode (zmc m_X12_lies) 8 = .ok (.aload_n 0, 1) := by decide +kernel
theorem d_X12_lies_9 : decode (zmc m_X12_lies) 9 = .ok (.iload_n 1, 1) := by decide +kernel
theorem d_X12_lies_10 : decode (zmc m_X12_lies) 10 = .ok (.invokevirtual 315, 3) := by decide +kernel
theorem d_X12_lies_13 : decode (zmc m_X12_lies) 13 = .ok (.goto 4, 3) := by decide +kernel
theorem d_X12_lies_16 : decode (zmc m_X12_lies) 16 = .ok (.iconst (-1), 1) := by decide +kernel
theorem d_X12_lies_17 : decode (zmc m_X12_lies) 17 = .ok (.ireturn, 1) := by decide +kernel
theorem d_X12_liesAt_0 : decode (zmc m_X12_liesAt) 0 = .ok (.iconst 3, 1) := by decide +kernel
theorem d_X12_liesAt_1 : decode (zmc m_X12_liesAt) 1 = .ok (.aload_n 0, 1) := by decide +kernel
theorem d_X12_liesAt_2 : decode (zmc m_X12_liesAt) 2 = .ok (.getfield 9, 3) := by decide +kernel
theorem d_X12_liesAt_5 : decode (zmc m_X12_liesAt) 5 = .ok (.iload_n 1, 1) := by decide +kernel
theorem d_X12_liesAt_6 : decode (zmc m_X12_liesAt) 6 = .ok (.iaload, 1) := by decide +kernel
theorem d_X12_liesAt_7 : decode (zmc m_X12_liesAt) 7 = .ok (.bipush 8, 2) := by decide +kernel
theorem d_X12_liesAt_9 : decode (zmc m_X12_liesAt) 9 = .ok (.irem, 1) := by decide +kernel
theorem d_X12_liesAt_10 : decode (zmc m_X12_liesAt) 10 = .ok (.imul, 1) := by decide +kernel
theorem d_X12_liesAt_11 : decode (zmc m_X12_liesAt) 11 = .ok (.aload_n 0, 1) := by decide +kernel
theorem d_X12_liesAt_12 : decode (zmc m_X12_liesAt) 12 = .ok (.getfield 18, 3) := by decide +kernel
theorem d_X12_liesAt_15 : decode (zmc m_X12_liesAt) 15 = .ok (.iload_n 1, 1) := by decide +kernel
theorem d_X12_liesAt_16 : decode (zmc m_X12_liesAt) 16 = .ok (.iaload, 1) := by decide +kernel
theorem d_X12_liesAt_17 : decode (zmc m_X12_liesAt) 17 = .ok (.iadd, 1) := by decide +kernel
theorem d_X12_liesAt_18 : decode (zmc m_X12_liesAt) 18 = .ok (.bipush 24, 2) := by decide +kernel
theorem d_X12_liesAt_20 : decode (zmc m_X12_liesAt) 20 = .ok (.irem, 1) := by decide +kernel
theorem d_X12_liesAt_21 : decode (zmc m_X12_liesAt) 21 = .ok (.ireturn, 1) := by decide +kernel
theorem d_X12_steer_0 : decode (zmc m_X12_steer) 0 = .ok (.aload_n 0, 1) := by decide +kernel
theorem d_X12_steer_1 : decode (zmc m_X12_steer) 1 = .ok (.aload_n 0, 1) := by decide +kernel
theorem d_X12_steer_2 : decode (zmc m_X12_steer) 2 = .ok (.invokevirtual 321, 3) := by decide +kernel
theorem d_X12_steer_5 : decode (zmc m_X12_steer) 5 = .ok (.invokevirtual 324, 3) := by decide +kernel
theorem d_X12_steer_8 : decode (zmc m_X12_steer) 8 = .ok (.ireturn, 1) := by decide +kernel
theorem d_X12_steerBy_0 : decode (zmc m_X12_steerBy) 0 = .ok (.iconst 0, 1) := by decide +kernel
theorem d_X12_steerBy_1 : decode (zmc m_X12_steerBy) 1 = .ok (.istore_n 2, 1) := by decide +kernel
theorem d_X12_steerBy_2 : decode (zmc m_X12_steerBy) 2 = .ok (.iconst 0, 1) := by decide +kernel
theorem d_X12_steerBy_3 : decode (zmc m_X12_steerBy) 3 = .ok (.istore_n 3, 1) := by decide +kernel
theorem d_X12_steerBy_4 : decode (zmc m_X12_steerBy) 4 = .ok (.iload_n 3, 1) := by decide +kernel
theorem d_X12_steerBy_5 : decode (zmc m_X12_steerBy) 5 = .ok (.aload_n 0, 1) := by decide +kernel
theorem d_X12_steerBy_6 : decode (zmc m_X12_steerBy) 6 = .ok (.getfield 157, 3) := by decide +kernel
theorem d_X12_steerBy_9 : decode (zmc m_X12_steerBy) 9 = .ok (.if_icmp .ge 26, 3) := by decide +kernel
theorem d_X12_steerBy_12 : decode (zmc m_X12_steerBy) 12 = .ok (.aload_n 0, 1) := by decide +kernel
theorem d_X12_steerBy_13 : decode (zmc m_X12_steerBy) 13 = .ok (.getfield 36, 3) := by decide +kernel
theorem d_X12_steerBy_16 : decode (zmc m_X12_steerBy) 16 = .ok (.iload_n 3, 1) := by decide +kernel
theorem d_X12_steerBy_17 : decode (zmc m_X12_steerBy) 17 = .ok (.iaload, 1) := by decide +kernel
theorem d_X12_steerBy_18 : decode (zmc m_X12_steerBy) 18 = .ok (.iload_n 1, 1) := by decide +kernel
theorem d_X12_steerBy_19 : decode (zmc m_X12_steerBy) 19 = .ok (.iand, 1) := by decide +kernel
theorem d_X12_steerBy_20 : decode (zmc m_X12_steerBy) 20 = .ok (.ifCond .eq 9, 3) := by decide +kernel
theorem d_X12_steerBy_23 : decode (zmc m_X12_steerBy) 23 = .ok (.iload_n 2, 1) := by decide +kernel
theorem d_X12_steerBy_24 : decode (zmc m_X12_steerBy) 24 = .ok (.iconst 1, 1) := by decide +kernel
theorem d_X12_steerBy_25 : decode (zmc m_X12_steerBy) 25 = .ok (.iload_n 3, 1) := by decide +kernel
theorem d_X12_steerBy_26 : decode (zmc m_X12_steerBy) 26 = .ok (.ishl, 1) := by decide +kernel
theorem d_X12_steerBy_27 : decode (zmc m_X12_steerBy) 27 = .ok (.ior, 1) := by decide +kernel
theorem d_X12_steerBy_28 : decode (zmc m_X12_steerBy) 28 = .ok (.istore_n 2, 1) := by decide +kernel
theorem d_X12_steerBy_29 : decode (zmc m_X12_steerBy) 29 = .ok (.iinc 3 1, 3) := by decide +kernel
theorem d_X12_steerBy_32 : decode (zmc m_X12_steerBy) 32 = .ok (.goto (-28), 3) := by decide +kernel
theorem d_X12_steerBy_35 : decode (zmc m_X12_steerBy) 35 = .ok (.iload_n 2, 1) := by decide +kernel
theorem d_X12_steerBy_36 : decode (zmc m_X12_steerBy) 36 = .ok (.ireturn, 1) := by decide +kernel
theorem d_X12_stillUp_0 : decode (zmc m_X12_stillUp) 0 = .ok (.iconst 0, 1) := by decide +kernel
theorem d_X12_stillUp_1 : decode (zmc m_X12_stillUp) 1 = .ok (.istore_n 2, 1) := by decide +kernel
theorem d_X12_stillUp_2 : decode (zmc m_X12_stillUp) 2 = .ok (.iconst 0, 1) := by decide +kernel
theorem d_X12_stillUp_3 : decode (zmc m_X12_stillUp) 3 = .ok (.istore_n 3, 1) := by decide +kernel
theorem d_X12_stillUp_4 : decode (zmc m_X12_stillUp) 4 = .ok (.iload_n 3, 1) := by decide +kernel
theorem d_X12_stillUp_5 : decode (zmc m_X12_stillUp) 5 = .ok (.aload_n 0, 1) := by decide +kernel
theorem d_X12_stillUp_6 : decode (zmc m_X12_stillUp) 6 = .ok (.getfield 124, 3) := by decide +kernel
theorem d_X12_stillUp_9 : decode (zmc m_X12_stillUp) 9 = .ok (.if_icmp .ge 34, 3) := by decide +kernel
theorem d_X12_stillUp_12 : decode (zmc m_X12_stillUp) 12 = .ok (.aload_n 0, 1) := by decide +kernel
theorem d_X12_stillUp_13 : decode (zmc m_X12_stillUp) 13 = .ok (.getfield 24, 3) := by decide +kernel
theorem d_X12_stillUp_16 : decode (zmc m_X12_stillUp) 16 = .ok (.iload_n 3, 1) := by decide +kernel
theorem d_X12_stillUp_17 : decode (zmc m_X12_stillUp) 17 = .ok (.iaload, 1) := by decide +kernel
theorem d_X12_stillUp_18 : decode (zmc m_X12_stillUp) 18 = .ok (.iconst 1, 1) := by decide +kernel
theorem d_X12_stillUp_19 : decode (zmc m_X12_stillUp) 19 = .ok (.if_icmp .ne 18, 3) := by decide +kernel
theorem d_X12_stillUp_22 : decode (zmc m_X12_stillUp) 22 = .ok (.aload_n 0, 1) := by decide +kernel
theorem d_X12_stillUp_23 : decode (zmc m_X12_stillUp) 23 = .ok (.iload_n 3, 1) := by decide +kernel
theorem d_X12_stillUp_24 : decode (zmc m_X12_stillUp) 24 = .ok (.invokevirtual 303, 3) := by decide +kernel
theorem d_X12_stillUp_27 : decode (zmc m_X12_stillUp) 27 = .ok (.iload_n 1, 1) := by decide +kernel
theorem d_X12_stillUp_28 : decode (zmc m_X12_stillUp) 28 = .ok (.if_icmp .le 9, 3) := by decide +kernel
theorem d_X12_stillUp_31 : decode (zmc m_X12_stillUp) 31 = .ok (.iload_n 2, 1) := by decide +kernel
theorem d_X12_stillUp_32 : decode (zmc m_X12_stillUp) 32 = .ok (.iconst 1, 1) := by decide +kernel
theorem d_X12_stillUp_33 : decode (zmc m_X12_stillUp) 33 = .ok (.iload_n 3, 1) := by decide +kernel
theorem d_X12_stillUp_34 : decode (zmc m_X12_stillUp) 34 = .ok (.ishl, 1) := by decide +kernel
theorem d_X12_stillUp_35 : decode (zmc m_X12_stillUp) 35 = .ok (.ior, 1) := by decide +kernel
theorem d_X12_stillUp_36 : decode (zmc m_X12_stillUp) 36 = .ok (.istore_n 2, 1) := by decide +kernel
theorem d_X12_stillUp_37 : decode (zmc m_X12_stillUp) 37 = .ok (.iinc 3 1, 3) := by decide +kernel
theorem d_X12_stillUp_40 : decode (zmc m_X12_stillUp) 40 = .ok (.goto (-36), 3) := by decide +kernel
theorem d_X12_stillUp_43 : decode (zmc m_X12_stillUp) 43 = .ok (.iload_n 2, 1) := by decide +kernel
theorem d_X12_stillUp_44 : decode (zmc m_X12_stillUp) 44 = .ok (.ireturn, 1) := by decide +kernel
theorem d_X12_thereBits_0 : decode (zmc m_X12_thereBits) 0 = .ok (.iconst 0, 1) := by decide +kernel
theorem d_X12_thereBits_1 : decode (zmc m_X12_thereBits) 1 = .ok (.istore_n 1, 1) := by decide +kernel
theorem d_X12_thereBits_2 : decode (zmc m_X12_thereBits) 2 = .ok (.iconst 0, 1) := by decide +kernel
theorem d_X12_thereBits_3 : decode (zmc m_X12_thereBits) 3 = .ok (.istore_n 2, 1) := by decide +kernel
theorem d_X12_thereBits_4 : decode (zmc m_X12_thereBits) 4 = .ok (.iload_n 2, 1) := by decide +kernel
theorem d_X12_thereBits_5 : decode (zmc m_X12_thereBits) 5 = .ok (.aload_n 0, 1) := by decide +kernel
theorem d_X12_thereBits_6 : decode (zmc m_X12_thereBits) 6 = .ok (.getfield 124, 3) := by decide +kernel
theorem d_X12_thereBits_9 : decode (zmc m_X12_thereBits) 9 = .ok (.if_icmp .ge 24, 3) := by decide +kernel
theorem d_X12_thereBits_12 : decode (zmc m_X12_thereBits) 12 = .ok (.aload_n 0, 1) := by decide +kernel
theorem d_X12_thereBits_13 : decode (zmc m_X12_thereBits) 13 = .ok (.getfield 27, 3) := by decide +kernel
theorem d_X12_thereBits_16 : decode (zmc m_X12_thereBits) 16 = .ok (.iload_n 2, 1) := by decide +kernel
theorem d_X12_thereBits_17 : decode (zmc m_X12_thereBits) 17 = .ok (.iaload, 1) := by decide +kernel
theorem d_X12_thereBits_18 : decode (zmc m_X12_thereBits) 18 = .ok (.ifCond .ne 9, 3) := by decide +kernel
theorem d_X12_thereBits_21 : decode (zmc m_X12_thereBits) 21 = .ok (.iload_n 1, 1) := by decide +kernel
theorem d_X12_thereBits_22 : decode (zmc m_X12_thereBits) 22 = .ok (.iconst 1, 1) := by decide +kernel
theorem d_X12_thereBits_23 : decode (zmc m_X12_thereBits) 23 = .ok (.iload_n 2, 1) := by decide +kernel
theorem d_X12_thereBits_24 : decode (zmc m_X12_thereBits) 24 = .ok (.ishl, 1) := by decide +kernel
theorem d_X12_thereBits_25 : decode (zmc m_X12_thereBits) 25 = .ok (.ior, 1) := by decide +kernel
theorem d_X12_thereBits_26 : decode (zmc m_X12_thereBits) 26 = .ok (.istore_n 1, 1) := by decide +kernel
theorem d_X12_thereBits_27 : decode (zmc m_X12_thereBits) 27 = .ok (.iinc 2 1, 3) := by decide +kernel
theorem d_X12_thereBits_30 : decode (zmc m_X12_thereBits) 30 = .ok (.goto (-26), 3) := by decide +kernel
theorem d_X12_thereBits_33 : decode (zmc m_X12_thereBits) 33 = .ok (.iload_n 1, 1) := by decide +kernel
theorem d_X12_thereBits_34 : decode (zmc m_X12_thereBits) 34 = .ok (.ireturn, 1) := by decide +kernel
theorem d_X12_upBy_0 : decode (zmc m_X12_upBy) 0 = .ok (.iload_n 1, 1) := by decide +kernel
theorem d_X12_upBy_1 : decode (zmc m_X12_upBy) 1 = .ok (.iconst (-1), 1) := by decide +kernel
theorem d_X12_upBy_2 : decode (zmc m_X12_upBy) 2 = .ok (.sipush 1999, 3) := by decide +kernel
theorem d_X12_upBy_5 : decode (zmc m_X12_upBy) 5 = .ok (.invokestatic 127, 3) := by decide +kernel
theorem d_X12_upBy_8 : decode (zmc m_X12_upBy) 8 = .ok (.ifCond .ne 5, 3) := by decide +kernel
theorem d_X12_upBy_11 : decode (zmc m_X12_upBy) 11 = .ok (.iconst (-1), 1) := by decide +kernel
theorem d_X12_upBy_12 : decode (zmc m_X12_upBy) 12 = .ok (.ireturn, 1) := by decide +kernel
theorem d_X12_upBy_13 : decode (zmc m_X12_upBy) 13 = .ok (.iload_n 1, 1) := by decide +kernel
theorem d_X12_upBy_14 : decode (zmc m_X12_upBy) 14 = .ok (.ifCond .ge 10, 3) := by decide +kernel
theorem d_X12_upBy_17 : decode (zmc m_X12_upBy) 17 = .ok (.aload_n 0, 1) := by decide +kernel
theorem d_X12_upBy_18 : decode (zmc m_X12_upBy) 18 = .ok (.invokevirtual 306, 3) := by decide +kernel
theorem d_X12_upBy_21 : decode (zmc m_X12_upBy) 21 = .ok (.goto 11, 3) := by decide +kernel
theorem d_X12_upBy_24 : decode (zmc m_X12_upBy) 24 = .ok (.aload_n 0, 1) := by decide +kernel
theorem d_X12_upBy_25 : decode (zmc m_X12_upBy) 25 = .ok (.iload_n 1, 1) := by decide +kernel
theorem d_X12_upBy_26 : decode (zmc m_X12_upBy) 26 = .ok (.invokevirtual 309, 3) := by decide +kernel
theorem d_X12_upBy_29 : decode (zmc m_X12_upBy) 29 = .ok (.invokestatic 312, 3) := by decide +kernel
theorem d_X12_upBy_32 : decode (zmc m_X12_upBy) 32 = .ok (.ireturn, 1) := by decide +kernel
theorem d_X12_upNow_0 : decode (zmc m_X12_upNow) 0 = .ok (.iconst 0, 1) := by decide +kernel
theorem d_X12_upNow_1 : decode (zmc m_X12_upNow) 1 = .ok (.istore_n 1, 1) := by decide +kernel
theorem d_X12_upNow_2 : decode (zmc m_X12_upNow) 2 = .ok (.iconst 0, 1) := by decide +kernel
theorem d_X12_upNow_3 : decode (zmc m_X12_upNow) 3 = .ok (.istore_n 2, 1) := by decide +kernel
theorem d_X12_upNow_4 : decode (zmc m_X12_upNow) 4 = .ok (.iload_n 2, 1) := by decide +kernel
theorem d_X12_upNow_5 : decode (zmc m_X12_upNow) 5 = .ok (.aload_n 0, 1) := by decide +kernel
theorem d_X12_upNow_6 : decode (zmc m_X12_upNow) 6 = .ok (.getfield 124, 3) := by decide +kernel
theorem d_X12_upNow_9 : decode (zmc m_X12_upNow) 9 = .ok (.if_icmp .ge 20, 3) := by decide +kernel
theorem d_X12_upNow_12 : decode (zmc m_X12_upNow) 12 = .ok (.iload_n 1, 1) := by decide +kernel
theorem d_X12_upNow_13 : decode (zmc m_X12_upNow) 13 = .ok (.aload_n 0, 1) := by decide +kernel
theorem d_X12_upNow_14 : decode (zmc m_X12_upNow) 14 = .ok (.getfield 24, 3) := by decide +kernel
theorem d_X12_upNow_17 : decode (zmc m_X12_upNow) 17 = .ok (.iload_n 2, 1) := by decide +kernel
theorem d_X12_upNow_18 : decode (zmc m_X12_upNow) 18 = .ok (.iaload, 1) := by decide +kernel
theorem d_X12_upNow_19 : decode (zmc m_X12_upNow) 19 = .ok (.iload_n 2, 1) := by decide +kernel
theorem d_X12_upNow_20 : decode (zmc m_X12_upNow) 20 = .ok (.ishl, 1) := by decide +kernel
theorem d_X12_upNow_21 : decode (zmc m_X12_upNow) 21 = .ok (.ior, 1) := by decide +kernel
theorem d_X12_upNow_22 : decode (zmc m_X12_upNow) 22 = .ok (.istore_n 1, 1) := by decide +kernel
theorem d_X12_upNow_23 : decode (zmc m_X12_upNow) 23 = .ok (.iinc 2 1, 3) := by decide +kernel
theorem d_X12_upNow_26 : decode (zmc m_X12_upNow) 26 = .ok (.goto (-22), 3) := by decide +kernel
theorem d_X12_upNow_29 : decode (zmc m_X12_upNow) 29 = .ok (.iload_n 1, 1) := by decide +kernel
theorem d_X12_upNow_30 : decode (zmc m_X12_upNow) 30 = .ok (.ireturn, 1) := by decide +kernel
/-! THE REFERENCE: drops, sand, who steers -/
def yBr (V : Nat → Nat → Int32) (ns : Nat) (a b : Int32) : Int32 := zfor (fun k s => if V 7 k = 1 ∧ (a ≤ zPlace V k ∧ zPlace V k ≤ b) then s + V 4 k else s) ns 0 0
abbrev yAll (V : Nat → Nat → Int32) (nh : Nat) (up : Int32) : Prop := zSteer V nh up = ((1 : Int32) <<< (nI nh &&& 31)) - 1
def ySfB (V : Nat → Nat → Int32) (nh : Nat) (set : Int32) (s : Nat) : Bool := decide (¬ ((set >>> (nI s &&& 31)) &&& 1 = 1 ∧ ¬ yAll V nh (set &&& (((1 : Int32) <<< (nI s &&& 31)) ^^^ (-1)))))
abbrev ySafe (V : Nat → Nat → Int32) (ns nh : Nat) (set : Int32) : Prop := zrun (ySfB V nh set) ns 0 = ns ∧ yAll V nh set
section S47
variable {g : zG} {l : Launch} {d : Nat} {I V : Nat → Nat → Int32} {L K : Nat → Nat → Int64} {fs : Nat × Nat × Option Nat} {ns nt nh nb : Nat} {pg : Option (List zLine)}
theorem sp_X12_downMany (hd : 1 ≤ d) (hM : zMs I V) (hK : zSky V ns nt nh) : zPure g l d m_X12_downMany [.ref 64] I L fs (.int (nI (zcnt (fun k => decide (V 7 k = 0 ∧ V 8 k = 0)) ns))) := by
  have hn := hK.2.1
  have m1 : I 64 1 = nI ns := hM.1.1.trans hK.1.1
  have mu : I 69 = V 7 := hM.2.1.2.2.2.2.1
  have mg : I 70 = V 8 := hM.2.1.2.2.2.2.2.1
  have loop : ∀ k, k ≤ ns → zA g l d m_X12_downMany I L fs 4 [(2, .int (nI k)), (1, .int (nI (zcnt (fun k => decide (V 7 k = 0 ∧ V 8 k = 0)) k))), (0, .ref 64)] (zP (.int (nI (zcnt (fun k => decide (V 7 k = 0 ∧ V 8 k = 0)) ns))) (zU I L fs)) := by
    refine zloop ns (fun k hk ih => ?_)
    have e1 : ∀ c : Prop, [Decidable c] → (c ↔ (V 7 k = 0 ∧ V 8 k = 0)) → nI (zcnt (fun k => decide (V 7 k = 0 ∧ V 8 k = 0)) (k + 1)) = if c then nI (zcnt (fun k => decide (V 7 k = 0 ∧ V 8 k = 0)) k + 1) else nI (zcnt (fun k => decide (V 7 k = 0 ∧ V 8 k = 0)) k) := by
      intro c _ hc
      show nI (zcnt _ k + (if decide (V 7 k = 0 ∧ V 8 k = 0) = true then 1 else 0)) = _
      by_cases q : c
      · rw [if_pos q, if_pos (decide_eq_true (hc.mp q))]
      · rw [if_neg q, if_neg (by simpa using fun z1 z2 => q (hc.mpr ⟨z1, z2⟩))]; rfl
    refine zIloadN d_X12_downMany_4 rfl rfl (q := 5) rfl ?_
    refine zAloadN d_X12_downMany_5 rfl rfl (q := 6) rfl ?_
    refine zGetI d_X12_downMany_6 ff_X12_124 sh_64 (by decide) (q := 9) rfl ?_
    refine zIcmp_ge d_X12_downMany_9 (tgt := 39) (q := 12) (by decide) rfl (fun h9 => ?_) (fun h9 => ?_)
    · have e : k = ns := by have := nle (m1 ▸ h9); omega
      subst e
      refine zIloadN d_X12_downMany_39 rfl rfl (q := 40) rfl ?_
      refine zIret d_X12_downMany_40 rfl rfl rfl ?_
      exact zPi rfl
    · have hlt := nnle (m1 ▸ h9)
      refine zAloadN d_X12_downMany_12 rfl rfl (q := 13) rfl ?_
      refine zGetR d_X12_downMany_13 ff_X12_24 sh_64 (by decide) r_64_6 (q := 16) rfl ?_
      refine zIloadN d_X12_downMany_16 rfl rfl (q := 17) rfl ?_
      refine zIald d_X12_downMany_17 sh_69 (by decide) rfl (by omega) (q := 18) rfl ?_
      refine zIf_ne d_X12_downMany_18 (tgt := 33) (q := 21) (by decide) rfl (fun h18 => ?_) (fun h18 => ?_)
      · refine zIinc d_X12_downMany_33 rfl (zinc _) (by decide) rfl (q := 36) rfl ?_
        refine zGoto d_X12_downMany_36 (q := 4) (by decide) ?_
        refine zSub [0, 1, 2] rfl ?_
        rw [mu] at h18
        first
        | (rw [mg] at h27; have ih2 := ih hlt; rw [e1 True ⟨fun _ => ⟨h18, h27⟩, fun _ => trivial⟩, if_pos trivial] at ih2; exact ih2)
        | (rw [mg] at h27; have ih2 := ih hlt; rw [e1 False ⟨fun q => q.elim, fun q => h27 q.2⟩, if_neg id] at ih2; exact ih2)
        | (have ih2 := ih hlt; rw [e1 False ⟨fun q => q.elim, fun q => h18 q.1⟩, if_neg id] at ih2; exact ih2)
      · refine zAloadN d_X12_downMany_21 rfl rfl (q := 22) rfl ?_
        refine zGetR d_X12_downMany_22 ff_X12_27 sh_64 (by decide) r_64_7 (q := 25) rfl ?_
        refine zIloadN d_X12_downMany_25 rfl rfl (q := 26) rfl ?_
        refine zIald d_X12_downMany_26 sh_70 (by decide) rfl (by omega) (q := 27) rfl ?_
        refine zIf_ne d_X12_downMany_27 (tgt := 33) (q := 30) (by decide) rfl (fun h27 => ?_) (fun h27 => ?_)
        · refine zIinc d_X12_downMany_33 rfl (zinc _) (by decide) rfl (q := 36) rfl ?_
          refine zGoto d_X12_downMany_36 (q := 4) (by decide) ?_
          refine zSub [0, 1, 2] rfl ?_
          rw [mu] at h18
          first
          | (rw [mg] at h27; have ih2 := ih hlt; rw [e1 True ⟨fun _ => ⟨h18, h27⟩, fun _ => trivial⟩, if_pos trivial] at ih2; exact ih2)
          | (rw [mg] at h27; have ih2 := ih hlt; rw [e1 False ⟨fun q => q.elim, fun q => h27 q.2⟩, if_neg id] at ih2; exact ih2)
          | (have ih2 := ih hlt; rw [e1 False ⟨fun q => q.elim, fun q => h18 q.1⟩, if_neg id] at ih2; exact ih2)
        · refine zIinc d_X12_downMany_30 rfl (zinc _) (by decide) rfl (q := 33) rfl ?_
          refine zIinc d_X12_downMany_33 rfl (zinc _) (by decide) rfl (q := 36) rfl ?_
          refine zGoto d_X12_downMany_36 (q := 4) (by decide) ?_
          refine zSub [0, 1, 2] rfl ?_
          rw [mu] at h18
          first
          | (rw [mg] at h27; have ih2 := ih hlt; rw [e1 True ⟨fun _ => ⟨h18, h27⟩, fun _ => trivial⟩, if_pos trivial] at ih2; exact ih2)
          | (rw [mg] at h27; have ih2 := ih hlt; rw [e1 False ⟨fun q => q.elim, fun q => h27 q.2⟩, if_neg id] at ih2; exact ih2)
          | (have ih2 := ih hlt; rw [e1 False ⟨fun q => q.elim, fun q => h18 q.1⟩, if_neg id] at ih2; exact ih2)
  refine zSp_of (lv := [(0, .ref 64)]) k_X12_downMany rfl (Nat.le_of_ble_eq_true rfl) ?_
  refine zIconst d_X12_downMany_0 (v := 0) ic_0 (q := 1) rfl ?_
  refine zIstoreN d_X12_downMany_1 rfl (by decide) rfl (q := 2) rfl ?_
  refine zIconst d_X12_downMany_2 (v := 0) ic_0 (q := 3) rfl ?_
  refine zIstoreN d_X12_downMany_3 rfl (by decide) rfl (q := 4) rfl ?_
  refine zSub [0, 1, 2] rfl ?_
  exact loop 0 (Nat.zero_le _)
theorem sp_X12_dropsAt (hd : 1 ≤ d) (hM : zMs I V) {k : Nat} (h : k < 10) : zPure g l d m_X12_dropsAt [.ref 64, .int (nI k)] I L fs (.int (zDrop V k)) := by
  obtain ⟨-, ⟨mc, mb, ms, ma, mu, mg, mf, mp, mn⟩, ⟨mm, md, mz⟩, ml⟩ := hM
  refine zSp_of (lv := [(0, .ref 64), (1, .int (nI k))]) k_X12_dropsAt rfl (Nat.le_of_ble_eq_true rfl) ?_
  refine zAloadN d_X12_dropsAt_0 rfl rfl (q := 1) rfl ?_
  refine zGetR d_X12_dropsAt_1 ff_X12_39 sh_64 (by decide) r_64_13 (q := 4) rfl ?_
  refine zIconst d_X12_dropsAt_4 (v := 1) ic_1 (q := 5) rfl ?_
  refine zIald d_X12_dropsAt_5 sh_74 (by decide) (j := 1) rfl (by decide) (q := 6) rfl ?_
  refine zIconst d_X12_dropsAt_6 (v := 3) ic_3 (q := 7) rfl ?_
  refine zAloadN d_X12_dropsAt_7 rfl rfl (q := 8) rfl ?_
  refine zGetR d_X12_dropsAt_8 ff_X12_18 sh_64 (by decide) r_64_4 (q := 11) rfl ?_
  refine zIloadN d_X12_dropsAt_11 rfl rfl (q := 12) rfl ?_
  refine zIald d_X12_dropsAt_12 sh_67 (by decide) rfl h (q := 13) rfl ?_
  refine zImul d_X12_dropsAt_13 (q := 14) rfl ?_
  refine zIadd d_X12_dropsAt_14 (q := 15) rfl ?_
  refine zAloadN d_X12_dropsAt_15 rfl rfl (q := 16) rfl ?_
  refine zGetR d_X12_dropsAt_16 ff_X12_21 sh_64 (by decide) r_64_5 (q := 19) rfl ?_
  refine zIloadN d_X12_dropsAt_19 rfl rfl (q := 20) rfl ?_
  refine zIald d_X12_dropsAt_20 sh_68 (by decide) rfl h (q := 21) rfl ?_
  refine zIadd d_X12_dropsAt_21 (q := 22) rfl ?_
  refine zAloadN d_X12_dropsAt_22 rfl rfl (q := 23) rfl ?_
  refine zGetR d_X12_dropsAt_23 ff_X12_15 sh_64 (by decide) r_64_3 (q := 26) rfl ?_
  refine zIloadN d_X12_dropsAt_26 rfl rfl (q := 27) rfl ?_
  refine zIald d_X12_dropsAt_27 sh_66 (by decide) rfl h (q := 28) rfl ?_
  refine zIsub d_X12_dropsAt_28 (q := 29) rfl ?_
  rw [md, ms, ma, mb]
  refine zIstoreN d_X12_dropsAt_29 rfl (by decide) rfl (q := 30) rfl ?_
  refine zIloadN d_X12_dropsAt_30 rfl rfl (q := 31) rfl ?_
  refine zIf_ge d_X12_dropsAt_31 (tgt := 38) (q := 34) (by decide) rfl (fun h31 => ?_) (fun h31 => ?_)
  · refine zIloadN d_X12_dropsAt_38 rfl rfl (q := 39) rfl ?_
    refine zIret d_X12_dropsAt_39 rfl rfl rfl ?_
    exact zPi (by unfold zDrop; dsimp only; grind)
  · refine zIconst d_X12_dropsAt_34 (v := 0) ic_0 (q := 35) rfl ?_
    refine zGoto d_X12_dropsAt_35 (q := 39) (by decide) ?_
    refine zIret d_X12_dropsAt_39 rfl rfl rfl ?_
    exact zPi (by unfold zDrop; dsimp only; grind)
theorem sp_X12_drops (hd : 3 ≤ d) (hM : zMs I V) (hK : zSky V ns nt nh) {s : Int32} : zPure g l d m_X12_drops [.ref 64, .int s] I L fs (.int (if 0 ≤ s ∧ s < nI ns then (if V 7 s.toNatClampNeg = 0 then -2 else zDrop V s.toNatClampNeg) else -1)) := by
  have hn := hK.2.1
  have mu : I 69 = V 7 := hM.2.1.2.2.2.2.1
  refine zSp_of (lv := [(0, .ref 64), (1, .int s)]) k_X12_drops rfl (Nat.le_of_ble_eq_true rfl) ?_
  refine zAloadN d_X12_drops_0 rfl rfl (q := 1) rfl ?_
  refine zIloadN d_X12_drops_1 rfl rfl (q := 2) rfl ?_
  refine zCallVP d_X12_drops_2 ml_X12_134 k_X12_isStar ki_X12_isStar ks_X12_isStar (sp_X12_isStar (d := d - 1) (by omega) hM hK) rfl rfl sh_64 (by decide) rfl (by decide) (Nat.le_of_ble_eq_true rfl) (by decide) (by omega) zns100 (q := 5) rfl ?_
  refine zIf_ne d_X12_drops_5 (tgt := 12) (q := 8) (by decide) rfl (fun h5 => ?_) (fun h5 => ?_)
  · have c := bi_n0.mp h5
    rw [if_pos c]
    obtain ⟨k, hk, rfl⟩ := zn1 (by omega) c.1 c.2
    rw [zcl_n (by omega)]
    refine zAloadN d_X12_drops_12 rfl rfl (q := 13) rfl ?_
    refine zGetR d_X12_drops_13 ff_X12_24 sh_64 (by decide) r_64_6 (q := 16) rfl ?_
    refine zIloadN d_X12_drops_16 rfl rfl (q := 17) rfl ?_
    refine zIald d_X12_drops_17 sh_69 (by decide) rfl (by omega) (q := 18) rfl ?_
    rw [mu]
    refine zIf_ne d_X12_drops_18 (tgt := 26) (q := 21) (by decide) rfl (fun h18 => ?_) (fun h18 => ?_)
    · refine zAloadN d_X12_drops_26 rfl rfl (q := 27) rfl ?_
      refine zIloadN d_X12_drops_27 rfl rfl (q := 28) rfl ?_
      refine zCallVP d_X12_drops_28 ml_X12_303 k_X12_dropsAt ki_X12_dropsAt ks_X12_dropsAt (sp_X12_dropsAt (d := d - 1) (by omega) hM (by omega)) rfl rfl sh_64 (by decide) rfl (by decide) (Nat.le_of_ble_eq_true rfl) (by decide) (by omega) zns100 (q := 31) rfl ?_
      refine zIret d_X12_drops_31 rfl rfl rfl ?_
      first | exact zPi rfl | exact zPi (if_pos h18).symm | exact zPi (if_neg h18).symm
    · refine zBipush d_X12_drops_21 (v := -2) bc_m2 (q := 23) rfl ?_
      refine zGoto d_X12_drops_23 (q := 31) (by decide) ?_
      refine zIret d_X12_drops_31 rfl rfl rfl ?_
      first | exact zPi rfl | exact zPi (if_pos h18).symm | exact zPi (if_neg h18).symm
  · have c := bi_0.mp h5
    rw [if_neg c]
    refine zIconst d_X12_drops_8 (v := -1) ic_m1 (q := 9) rfl ?_
    refine zGoto d_X12_drops_9 (q := 31) (by decide) ?_
    refine zIret d_X12_drops_31 rfl rfl rfl ?_
    first | exact zPi rfl | exact zPi (if_pos h18).symm | exact zPi (if_neg h18).symm
theorem sp_X12_upNow (hd : 1 ≤ d) (hM : zMs I V) (hK : zSky V ns nt nh) (hB : zBd V ns nt nh) : zPure g l d m_X12_upNow [.ref 64] I L fs (.int (zbits (V 7) ns)) := by
  have hn := hK.2.1
  have m1 : I 64 1 = nI ns := hM.1.1.trans hK.1.1
  have mu : I 69 = V 7 := hM.2.1.2.2.2.2.1
  have loop : ∀ k, k ≤ ns → ∀ s, zfor (fun k s => if V 7 k = 0 then s else s ||| ((1 : Int32) <<< (nI k &&& 31))) ns k s = zbits (V 7) ns → zA g l d m_X12_upNow I L fs 4 [(2, .int (nI k)), (1, .int s), (0, .ref 64)] (zP (.int (zbits (V 7) ns)) (zU I L fs)) := by
    refine zloop ns (fun k hk ih s hx => ?_)
    refine zIloadN d_X12_upNow_4 rfl rfl (q := 5) rfl ?_
    refine zAloadN d_X12_upNow_5 rfl rfl (q := 6) rfl ?_
    refine zGetI d_X12_upNow_6 ff_X12_124 sh_64 (by decide) (q := 9) rfl ?_
    refine zIcmp_ge d_X12_upNow_9 (tgt := 29) (q := 12) (by decide) rfl (fun h9 => ?_) (fun h9 => ?_)
    · have e := nle (m1 ▸ h9)
      refine zIloadN d_X12_upNow_29 rfl rfl (q := 30) rfl ?_
      refine zIret d_X12_upNow_30 rfl rfl rfl ?_
      exact zPi (by rw [← hx, zfor_end e])
    · have hlt := nnle (m1 ▸ h9)
      rw [zfor_step hlt] at hx
      refine zIloadN d_X12_upNow_12 rfl rfl (q := 13) rfl ?_
      refine zAloadN d_X12_upNow_13 rfl rfl (q := 14) rfl ?_
      refine zGetR d_X12_upNow_14 ff_X12_24 sh_64 (by decide) r_64_6 (q := 17) rfl ?_
      refine zIloadN d_X12_upNow_17 rfl rfl (q := 18) rfl ?_
      refine zIald d_X12_upNow_18 sh_69 (by decide) rfl (by omega) (q := 19) rfl ?_
      rw [mu]
      refine zIloadN d_X12_upNow_19 rfl rfl (q := 20) rfl ?_
      refine zIshl d_X12_upNow_20 (q := 21) rfl ?_
      refine zIor d_X12_upNow_21 (q := 22) rfl ?_
      refine zIstoreN d_X12_upNow_22 rfl (by decide) rfl (q := 23) rfl ?_
      refine zIinc d_X12_upNow_23 rfl (zinc _) (by decide) rfl (q := 26) rfl ?_
      refine zGoto d_X12_upNow_26 (q := 4) (by decide) ?_
      refine zSub [0, 1, 2] rfl ?_
      refine ih hlt _ ?_
      rw [← hx]
      congr 1
      rcases zb_up hB k with q | q
      · rw [q, if_pos rfl, zzero' k (by omega)]; simp
      · rw [q, if_neg (by decide)]
  refine zSp_of (lv := [(0, .ref 64)]) k_X12_upNow rfl (Nat.le_of_ble_eq_true rfl) ?_
  refine zIconst d_X12_upNow_0 (v := 0) ic_0 (q := 1) rfl ?_
  refine zIstoreN d_X12_upNow_1 rfl (by decide) rfl (q := 2) rfl ?_
  refine zIconst d_X12_upNow_2 (v := 0) ic_0 (q := 3) rfl ?_
  refine zIstoreN d_X12_upNow_3 rfl (by decide) rfl (q := 4) rfl ?_
  refine zSub [0, 1, 2] rfl ?_
  exact loop 0 (Nat.zero_le _) 0 rfl
theorem sp_X12_thereBits (hd : 1 ≤ d) (hM : zMs I V) (hK : zSky V ns nt nh) : zPure g l d m_X12_thereBits [.ref 64] I L fs (.int (zAtHand V ns)) := by
  have hn := hK.2.1
  have m1 : I 64 1 = nI ns := hM.1.1.trans hK.1.1
  have mg : I 70 = V 8 := hM.2.1.2.2.2.2.2.1
  rw [zAtHand_N hn, ← zN_fold (c := fun k => V 8 k = 0) (by omega)]
  have loop : ∀ k, k ≤ ns → ∀ s r, zfor (fun k s => if V 8 k = 0 then s ||| ((1 : Int32) <<< (nI k &&& 31)) else s) ns k s = r → zA g l d m_X12_thereBits I L fs 4 [(2, .int (nI k)), (1, .int s), (0, .ref 64)] (zP (.int r) (zU I L fs)) := by
    refine zloop ns (fun k hk ih s r hx => ?_)
    refine zIloadN d_X12_thereBits_4 rfl rfl (q := 5) rfl ?_
    refine zAloadN d_X12_thereBits_5 rfl rfl (q := 6) rfl ?_
    refine zGetI d_X12_thereBits_6 ff_X12_124 sh_64 (by decide) (q := 9) rfl ?_
    refine zIcmp_ge d_X12_thereBits_9 (tgt := 33) (q := 12) (by decide) rfl (fun h9 => ?_) (fun h9 => ?_)
    · have e := nle (m1 ▸ h9)
      refine zIloadN d_X12_thereBits_33 rfl rfl (q := 34) rfl ?_
      refine zIret d_X12_thereBits_34 rfl rfl rfl ?_
      exact zPi (by rw [← hx, zfor_end e])
    · have hlt := nnle (m1 ▸ h9)
      rw [zfor_step hlt] at hx
      refine zAloadN d_X12_thereBits_12 rfl rfl (q := 13) rfl ?_
      refine zGetR d_X12_thereBits_13 ff_X12_27 sh_64 (by decide) r_64_7 (q := 16) rfl ?_
      refine zIloadN d_X12_thereBits_16 rfl rfl (q := 17) rfl ?_
      refine zIald d_X12_thereBits_17 sh_70 (by decide) rfl (by omega) (q := 18) rfl ?_
      rw [mg]
      refine zIf_ne d_X12_thereBits_18 (tgt := 27) (q := 21) (by decide) rfl (fun h18 => ?_) (fun h18 => ?_)
      · refine zIinc d_X12_thereBits_27 rfl (zinc _) (by decide) rfl (q := 30) rfl ?_
        refine zGoto d_X12_thereBits_30 (q := 4) (by decide) ?_
        refine zSub [0, 1, 2] rfl ?_
        first | exact ih hlt _ _ (by rw [← hx]; congr 1; exact (if_pos h18).symm) | exact ih hlt _ _ (by rw [← hx]; congr 1; exact (if_neg h18).symm)
      · refine zIloadN d_X12_thereBits_21 rfl rfl (q := 22) rfl ?_
        refine zIconst d_X12_thereBits_22 (v := 1) ic_1 (q := 23) rfl ?_
        refine zIloadN d_X12_thereBits_23 rfl rfl (q := 24) rfl ?_
        refine zIshl d_X12_thereBits_24 (q := 25) rfl ?_
        refine zIor d_X12_thereBits_25 (q := 26) rfl ?_
        refine zIstoreN d_X12_thereBits_26 rfl (by decide) rfl (q := 27) rfl ?_
        refine zIinc d_X12_thereBits_27 rfl (zinc _) (by decide) rfl (q := 30) rfl ?_
        refine zGoto d_X12_thereBits_30 (q := 4) (by decide) ?_
        refine zSub [0, 1, 2] rfl ?_
        first | exact ih hlt _ _ (by rw [← hx]; congr 1; exact (if_pos h18).symm) | exact ih hlt _ _ (by rw [← hx]; congr 1; exact (if_neg h18).symm)
  refine zSp_of (lv := [(0, .ref 64)]) k_X12_thereBits rfl (Nat.le_of_ble_eq_true rfl) ?_
  refine zIconst d_X12_thereBits_0 (v := 0) ic_0 (q := 1) rfl ?_
  refine zIstoreN d_X12_thereBits_1 rfl (by decide) rfl (q := 2) rfl ?_
  refine zIconst d_X12_thereBits_2 (v := 0) ic_0 (q := 3) rfl ?_
  refine zIstoreN d_X12_thereBits_3 rfl (by decide) rfl (q := 4) rfl ?_
  refine zSub [0, 1, 2] rfl ?_
  exact loop 0 (Nat.zero_le _) 0 _ rfl
theorem sp_X12_stillUp (hd : 2 ≤ d) (hM : zMs I V) (hK : zSky V ns nt nh) (hB : zBd V ns nt nh) {m : Int32} : zPure g l d m_X12_stillUp [.ref 64, .int m] I L fs (.int (zUpAf V ns m)) := by
  have hn := hK.2.1
  have m1 : I 64 1 = nI ns := hM.1.1.trans hK.1.1
  have mu : I 69 = V 7 := hM.2.1.2.2.2.2.1
  have e0 : zUpAf V ns m = zfor (fun k s => if V 7 k = 1 ∧ m < zDrop V k then s ||| ((1 : Int32) <<< (nI k &&& 31)) else s) ns 0 0 := by
    rw [zN_fold (c := fun k => V 7 k = 1 ∧ m < zDrop V k) (by omega), zUpAf_N hn]
    congr 1
    refine zN_congr (fun k hk => decide_eq_decide.mpr (and_congr_left fun _ => ?_))
    rcases zb_up hB k with q | q <;> rw [q] <;> decide
  rw [e0]
  have loop : ∀ k, k ≤ ns → ∀ s r, zfor (fun k s => if V 7 k = 1 ∧ m < zDrop V k then s ||| ((1 : Int32) <<< (nI k &&& 31)) else s) ns k s = r → zA g l d m_X12_stillUp I L fs 4 [(3, .int (nI k)), (2, .int s), (0, .ref 64), (1, .int m)] (zP (.int r) (zU I L fs)) := by
    refine zloop ns (fun k hk ih s r hx => ?_)
    refine zIloadN d_X12_stillUp_4 rfl rfl (q := 5) rfl ?_
    refine zAloadN d_X12_stillUp_5 rfl rfl (q := 6) rfl ?_
    refine zGetI d_X12_stillUp_6 ff_X12_124 sh_64 (by decide) (q := 9) rfl ?_
    refine zIcmp_ge d_X12_stillUp_9 (tgt := 43) (q := 12) (by decide) rfl (fun h9 => ?_) (fun h9 => ?_)
    · have e := nle (m1 ▸ h9)
      refine zIloadN d_X12_stillUp_43 rfl rfl (q := 44) rfl ?_
      refine zIret d_X12_stillUp_44 rfl rfl rfl ?_
      exact zPi (by rw [← hx, zfor_end e])
    · have hlt := nnle (m1 ▸ h9)
      rw [zfor_step hlt] at hx
      refine zAloadN d_X12_stillUp_12 rfl rfl (q := 13) rfl ?_
      refine zGetR d_X12_stillUp_13 ff_X12_24 sh_64 (by decide) r_64_6 (q := 16) rfl ?_
      refine zIloadN d_X12_stillUp_16 rfl rfl (q := 17) rfl ?_
      refine zIald d_X12_stillUp_17 sh_69 (by decide) rfl (by omega) (q := 18) rfl ?_
      rw [mu]
      refine zIconst d_X12_stillUp_18 (v := 1) ic_1 (q := 19) rfl ?_
      refine zIcmp_ne d_X12_stillUp_19 (tgt := 37) (q := 22) (by decide) rfl (fun h19 => ?_) (fun h19 => ?_)
      · refine zIinc d_X12_stillUp_37 rfl (zinc _) (by decide) rfl (q := 40) rfl ?_
        refine zGoto d_X12_stillUp_40 (q := 4) (by decide) ?_
        refine zSub [0, 1, 2, 3] rfl ?_
        first | exact ih hlt _ _ (by rw [← hx]; congr 1; exact (if_pos ⟨h19, by grind⟩).symm) | exact ih hlt _ _ (by rw [← hx]; congr 1; exact (if_neg (by grind)).symm)
      · refine zAloadN d_X12_stillUp_22 rfl rfl (q := 23) rfl ?_
        refine zIloadN d_X12_stillUp_23 rfl rfl (q := 24) rfl ?_
        refine zCallVP d_X12_stillUp_24 ml_X12_303 k_X12_dropsAt ki_X12_dropsAt ks_X12_dropsAt (sp_X12_dropsAt (d := d - 1) (by omega) hM (by omega)) rfl rfl sh_64 (by decide) rfl (by decide) (Nat.le_of_ble_eq_true rfl) (by decide) (by omega) zns100 (q := 27) rfl ?_
        refine zIloadN d_X12_stillUp_27 rfl rfl (q := 28) rfl ?_
        refine zIcmp_le d_X12_stillUp_28 (tgt := 37) (q := 31) (by decide) rfl (fun h28 => ?_) (fun h28 => ?_)
        · refine zIinc d_X12_stillUp_37 rfl (zinc _) (by decide) rfl (q := 40) rfl ?_
          refine zGoto d_X12_stillUp_40 (q := 4) (by decide) ?_
          refine zSub [0, 1, 2, 3] rfl ?_
          first | exact ih hlt _ _ (by rw [← hx]; congr 1; exact (if_pos ⟨h19, by grind⟩).symm) | exact ih hlt _ _ (by rw [← hx]; congr 1; exact (if_neg (by grind)).symm)
        · refine zIloadN d_X12_stillUp_31 rfl rfl (q := 32) rfl ?_
          refine zIconst d_X12_stillUp_32 (v := 1) ic_1 (q := 33) rfl ?_
          refine zIloadN d_X12_stillUp_33 rfl rfl (q := 34) rfl ?_
          refine zIshl d_X12_stillUp_34 (q := 35) rfl ?_
          refine zIor d_X12_stillUp_35 (q := 36) rfl ?_
          refine zIstoreN d_X12_stillUp_36 rfl (by decide) rfl (q := 37) rfl ?_
          refine zIinc d_X12_stillUp_37 rfl (zinc _) (by decide) rfl (q := 40) rfl ?_
          refine zGoto d_X12_stillUp_40 (q := 4) (by decide) ?_
          refine zSub [0, 1, 2, 3] rfl ?_
          first | exact ih hlt _ _ (by rw [← hx]; congr 1; exact (if_pos ⟨h19, by grind⟩).symm) | exact ih hlt _ _ (by rw [← hx]; congr 1; exact (if_neg (by grind)).symm)
  refine zSp_of (lv := [(0, .ref 64), (1, .int m)]) k_X12_stillUp rfl (Nat.le_of_ble_eq_true rfl) ?_
  refine zIconst d_X12_stillUp_0 (v := 0) ic_0 (q := 1) rfl ?_
  refine zIstoreN d_X12_stillUp_1 rfl (by decide) rfl (q := 2) rfl ?_
  refine zIconst d_X12_stillUp_2 (v := 0) ic_0 (q := 3) rfl ?_
  refine zIstoreN d_X12_stillUp_3 rfl (by decide) rfl (q := 4) rfl ?_
  refine zSub [0, 1, 2, 3] rfl ?_
  exact loop 0 (Nat.zero_le _) 0 _ rfl
theorem sp_X12_firstDrop (hd : 2 ≤ d) (hM : zMs I V) (hK : zSky V ns nt nh) (hB : zBd V ns nt nh) : zPure g l d m_X12_firstDrop [.ref 64] I L fs (.int (zFirst V ns)) := by
  have hn := hK.2.1
  have m1 : I 64 1 = nI ns := hM.1.1.trans hK.1.1
  have mu : I 69 = V 7 := hM.2.1.2.2.2.2.1
  have loop : ∀ k, k ≤ ns → ∀ s, (s = -2 ∨ ∃ j, j < ns ∧ s = nI j) → zfor (fun k s => if (s = -2 ∨ zDrop V k < zDrop V s.toNatClampNeg) ∧ ¬ V 7 k = 0 then nI k else s) ns k s = zFirst V ns → zA g l d m_X12_firstDrop I L fs 5 [(2, .int (nI k)), (1, .int s), (0, .ref 64)] (zP (.int (zFirst V ns)) (zU I L fs)) := by
    refine zloop ns (fun k hk ih s hs hx => ?_)
    refine zIloadN d_X12_firstDrop_5 rfl rfl (q := 6) rfl ?_
    refine zAloadN d_X12_firstDrop_6 rfl rfl (q := 7) rfl ?_
    refine zGetI d_X12_firstDrop_7 ff_X12_124 sh_64 (by decide) (q := 10) rfl ?_
    refine zIcmp_ge d_X12_firstDrop_10 (tgt := 48) (q := 13) (by decide) rfl (fun h10 => ?_) (fun h10 => ?_)
    · have e := nle (m1 ▸ h10)
      refine zIloadN d_X12_firstDrop_48 rfl rfl (q := 49) rfl ?_
      refine zIret d_X12_firstDrop_49 rfl rfl rfl ?_
      exact zPi (by rw [← hx, zfor_end e])
    · have hlt := nnle (m1 ▸ h10)
      rw [zfor_step hlt] at hx
      have hb := zb_up hB k
      refine zAloadN d_X12_firstDrop_13 rfl rfl (q := 14) rfl ?_
      refine zGetR d_X12_firstDrop_14 ff_X12_24 sh_64 (by decide) r_64_6 (q := 17) rfl ?_
      refine zIloadN d_X12_firstDrop_17 rfl rfl (q := 18) rfl ?_
      refine zIald d_X12_firstDrop_18 sh_69 (by decide) rfl (by omega) (q := 19) rfl ?_
      rw [mu]
      refine zIconst d_X12_firstDrop_19 (v := 1) ic_1 (q := 20) rfl ?_
      refine zIcmp_ne d_X12_firstDrop_20 (tgt := 42) (q := 23) (by decide) rfl (fun h20 => ?_) (fun h20 => ?_)
      · have hc : ¬ ((s = -2 ∨ zDrop V k < zDrop V s.toNatClampNeg) ∧ ¬ V 7 k = 0) := by grind
        have hs' := hs
        refine zIinc d_X12_firstDrop_42 rfl (zinc _) (by decide) rfl (q := 45) rfl ?_
        refine zGoto d_X12_firstDrop_45 (q := 5) (by decide) ?_
        refine zSub [0, 1, 2] rfl ?_
        first
        | exact ih hlt _ hs' (by rw [← hx]; congr 1; exact (if_pos hc).symm)
        | exact ih hlt _ hs' (by rw [← hx]; congr 1; exact (if_neg hc).symm)
      · refine zIloadN d_X12_firstDrop_23 rfl rfl (q := 24) rfl ?_
        refine zIf_lt d_X12_firstDrop_24 (tgt := 40) (q := 27) (by decide) rfl (fun h24 => ?_) (fun h24 => ?_)
        · have hs2 : s = -2 := by rcases hs with q | ⟨j, hj, q⟩; exact q; exact absurd h24 (by rw [q]; exact nI_pos (by omega))
          have hc : (s = -2 ∨ zDrop V k < zDrop V s.toNatClampNeg) ∧ ¬ V 7 k = 0 := ⟨Or.inl hs2, by rw [h20]; decide⟩
          have hs' : nI k = -2 ∨ ∃ j, j < ns ∧ nI k = nI j := Or.inr ⟨k, hlt, rfl⟩
          refine zIloadN d_X12_firstDrop_40 rfl rfl (q := 41) rfl ?_
          refine zIstoreN d_X12_firstDrop_41 rfl (by decide) rfl (q := 42) rfl ?_
          refine zIinc d_X12_firstDrop_42 rfl (zinc _) (by decide) rfl (q := 45) rfl ?_
          refine zGoto d_X12_firstDrop_45 (q := 5) (by decide) ?_
          refine zSub [0, 1, 2] rfl ?_
          first
          | exact ih hlt _ hs' (by rw [← hx]; congr 1; exact (if_pos hc).symm)
          | exact ih hlt _ hs' (by rw [← hx]; congr 1; exact (if_neg hc).symm)
        · obtain ⟨j, hj, rfl⟩ := hs.resolve_left (fun q => h24 (by rw [q]; decide))
          have ej : (nI j).toNatClampNeg = j := zcl_n (by omega)
          have ej2 : ¬ nI j = -2 := fun q => h24 (by rw [q]; decide)
          refine zAloadN d_X12_firstDrop_27 rfl rfl (q := 28) rfl ?_
          refine zIloadN d_X12_firstDrop_28 rfl rfl (q := 29) rfl ?_
          refine zCallVP d_X12_firstDrop_29 ml_X12_303 k_X12_dropsAt ki_X12_dropsAt ks_X12_dropsAt (sp_X12_dropsAt (d := d - 1) (by omega) hM (by omega)) rfl rfl sh_64 (by decide) rfl (by decide) (Nat.le_of_ble_eq_true rfl) (by decide) (by omega) zns100 (q := 32) rfl ?_
          refine zAloadN d_X12_firstDrop_32 rfl rfl (q := 33) rfl ?_
          refine zIloadN d_X12_firstDrop_33 rfl rfl (q := 34) rfl ?_
          refine zCallVP d_X12_firstDrop_34 ml_X12_303 k_X12_dropsAt ki_X12_dropsAt ks_X12_dropsAt (sp_X12_dropsAt (d := d - 1) (by omega) hM (by omega)) rfl rfl sh_64 (by decide) rfl (by decide) (Nat.le_of_ble_eq_true rfl) (by decide) (by omega) zns100 (q := 37) rfl ?_
          refine zIcmp_ge d_X12_firstDrop_37 (tgt := 42) (q := 40) (by decide) rfl (fun h37 => ?_) (fun h37 => ?_)
          · have hc : ¬ ((nI j = -2 ∨ zDrop V k < zDrop V (nI j).toNatClampNeg) ∧ ¬ V 7 k = 0) := by rw [ej]; grind
            have hs' := hs
            refine zIinc d_X12_firstDrop_42 rfl (zinc _) (by decide) rfl (q := 45) rfl ?_
            refine zGoto d_X12_firstDrop_45 (q := 5) (by decide) ?_
            refine zSub [0, 1, 2] rfl ?_
            first
            | exact ih hlt _ hs' (by rw [← hx]; congr 1; exact (if_pos hc).symm)
            | exact ih hlt _ hs' (by rw [← hx]; congr 1; exact (if_neg hc).symm)
          · have hc : (nI j = -2 ∨ zDrop V k < zDrop V (nI j).toNatClampNeg) ∧ ¬ V 7 k = 0 := ⟨Or.inr (by rw [ej]; grind), by rw [h20]; decide⟩
            have hs' : nI k = -2 ∨ ∃ j, j < ns ∧ nI k = nI j := Or.inr ⟨k, hlt, rfl⟩
            refine zIloadN d_X12_firstDrop_40 rfl rfl (q := 41) rfl ?_
            refine zIstoreN d_X12_firstDrop_41 rfl (by decide) rfl (q := 42) rfl ?_
            refine zIinc d_X12_firstDrop_42 rfl (zinc _) (by decide) rfl (q := 45) rfl ?_
            refine zGoto d_X12_firstDrop_45 (q := 5) (by decide) ?_
            refine zSub [0, 1, 2] rfl ?_
            first
            | exact ih hlt _ hs' (by rw [← hx]; congr 1; exact (if_pos hc).symm)
            | exact ih hlt _ hs' (by rw [← hx]; congr 1; exact (if_neg hc).symm)
  refine zSp_of (lv := [(0, .ref 64)]) k_X12_firstDrop rfl (Nat.le_of_ble_eq_true rfl) ?_
  refine zBipush d_X12_firstDrop_0 (v := -2) bc_m2 (q := 2) rfl ?_
  refine zIstoreN d_X12_firstDrop_2 rfl (by decide) rfl (q := 3) rfl ?_
  refine zIconst d_X12_firstDrop_3 (v := 0) ic_0 (q := 4) rfl ?_
  refine zIstoreN d_X12_firstDrop_4 rfl (by decide) rfl (q := 5) rfl ?_
  refine zSub [0, 1, 2] rfl ?_
  exact loop 0 (Nat.zero_le _) (-2) (Or.inl rfl) rfl
theorem sp_X12_upBy (hd : 3 ≤ d) (hM : zMs I V) (hK : zSky V ns nt nh) (hB : zBd V ns nt nh) {m : Int32} : zPure g l d m_X12_upBy [.ref 64, .int m] I L fs (.int (if m < -1 ∨ 1999 < m then -1 else if m = -1 then zFirst V ns else zbc (zUpAf V ns m))) := by
  have hn := hK.2.1
  have eU := zUpAf_N (V := V) (m := m) hn
  refine zSp_of (lv := [(0, .ref 64), (1, .int m)]) k_X12_upBy rfl (Nat.le_of_ble_eq_true rfl) ?_
  refine zIloadN d_X12_upBy_0 rfl rfl (q := 1) rfl ?_
  refine zIconst d_X12_upBy_1 (v := -1) ic_m1 (q := 2) rfl ?_
  refine zSipush d_X12_upBy_2 (v := 1999) sc_1999 (q := 5) rfl ?_
  refine zCallSP d_X12_upBy_5 ml_X12_127 k_X12_in kt_X12_in (sp_X12_in (d := d - 1) (by omega) ) rfl rfl (Nat.le_of_ble_eq_true rfl) (by decide) (by omega) zns100 (q := 8) rfl ?_
  refine zIf_ne d_X12_upBy_8 (tgt := 13) (q := 11) (by decide) rfl (fun h8 => ?_) (fun h8 => ?_)
  · have c := bi_n0.mp h8
    rw [if_neg (by grind : ¬ (m < -1 ∨ 1999 < m))]
    refine zIloadN d_X12_upBy_13 rfl rfl (q := 14) rfl ?_
    refine zIf_ge d_X12_upBy_14 (tgt := 24) (q := 17) (by decide) rfl (fun h14 => ?_) (fun h14 => ?_)
    · rw [if_neg (by grind : ¬ m = -1)]
      refine zAloadN d_X12_upBy_24 rfl rfl (q := 25) rfl ?_
      refine zIloadN d_X12_upBy_25 rfl rfl (q := 26) rfl ?_
      refine zCallVP d_X12_upBy_26 ml_X12_309 k_X12_stillUp ki_X12_stillUp ks_X12_stillUp (sp_X12_stillUp (d := d - 1) (by omega) hM hK hB) rfl rfl sh_64 (by decide) rfl (by decide) (Nat.le_of_ble_eq_true rfl) (by decide) (by omega) zns100 (q := 29) rfl ?_
      rw [eU]
      refine zCallSP d_X12_upBy_29 ml_X12_312 k_X12_bitsOf kt_X12_bitsOf (sp_X12_bitsOf (d := d - 1) (by omega) (zN_1024 hn)) rfl rfl (Nat.le_of_ble_eq_true rfl) (by decide) (by omega) zns100 (q := 32) rfl ?_
      refine zIret d_X12_upBy_32 rfl rfl rfl ?_
      first | exact zPi rfl | exact zPi (by rw [eU])
    · rw [if_pos (by grind : m = -1)]
      refine zAloadN d_X12_upBy_17 rfl rfl (q := 18) rfl ?_
      refine zCallVP d_X12_upBy_18 ml_X12_306 k_X12_firstDrop ki_X12_firstDrop ks_X12_firstDrop (sp_X12_firstDrop (d := d - 1) (by omega) hM hK hB) rfl rfl sh_64 (by decide) rfl (by decide) (Nat.le_of_ble_eq_true rfl) (by decide) (by omega) zns100 (q := 21) rfl ?_
      refine zGoto d_X12_upBy_21 (q := 32) (by decide) ?_
      refine zIret d_X12_upBy_32 rfl rfl rfl ?_
      first | exact zPi rfl | exact zPi (by rw [eU])
  · have c := bi_0.mp h8
    rw [if_pos (by grind : m < -1 ∨ 1999 < m)]
    refine zIconst d_X12_upBy_11 (v := -1) ic_m1 (q := 12) rfl ?_
    refine zIret d_X12_upBy_12 rfl rfl rfl ?_
    first | exact zPi rfl | exact zPi (by rw [eU])
theorem sp_X12_liesAt (hd : 1 ≤ d) (hM : zMs I V) {k : Nat} (h : k < 10) : zPure g l d m_X12_liesAt [.ref 64, .int (nI k)] I L fs (.int (zPlace V k)) := by
  obtain ⟨-, ⟨mc, mb, ms, ma, mu, mg, mf, mp, mn⟩, ⟨mm, md, mz⟩, ml⟩ := hM
  refine zSp_of (lv := [(0, .ref 64), (1, .int (nI k))]) k_X12_liesAt rfl (Nat.le_of_ble_eq_true rfl) ?_
  refine zIconst d_X12_liesAt_0 (v := 3) ic_3 (q := 1) rfl ?_
  refine zAloadN d_X12_liesAt_1 rfl rfl (q := 2) rfl ?_
  refine zGetR d_X12_liesAt_2 ff_X12_9 sh_64 (by decide) r_64_2 (q := 5) rfl ?_
  refine zIloadN d_X12_liesAt_5 rfl rfl (q := 6) rfl ?_
  refine zIald d_X12_liesAt_6 sh_65 (by decide) rfl h (q := 7) rfl ?_
  refine zBipush d_X12_liesAt_7 (v := 8) bc_8 (q := 9) rfl ?_
  refine zIrem d_X12_liesAt_9 (by decide) (q := 10) rfl ?_
  refine zImul d_X12_liesAt_10 (q := 11) rfl ?_
  refine zAloadN d_X12_liesAt_11 rfl rfl (q := 12) rfl ?_
  refine zGetR d_X12_liesAt_12 ff_X12_18 sh_64 (by decide) r_64_4 (q := 15) rfl ?_
  refine zIloadN d_X12_liesAt_15 rfl rfl (q := 16) rfl ?_
  refine zIald d_X12_liesAt_16 sh_67 (by decide) rfl h (q := 17) rfl ?_
  refine zIadd d_X12_liesAt_17 (q := 18) rfl ?_
  refine zBipush d_X12_liesAt_18 (v := 24) bc_24 (q := 20) rfl ?_
  refine zIrem d_X12_liesAt_20 (by decide) (q := 21) rfl ?_
  refine zIret d_X12_liesAt_21 rfl rfl rfl ?_
  exact zPi (by rw [mc, ms]; rfl)
theorem sp_X12_lies (hd : 3 ≤ d) (hM : zMs I V) (hK : zSky V ns nt nh) {s : Int32} : zPure g l d m_X12_lies [.ref 64, .int s] I L fs (.int (if 0 ≤ s ∧ s < nI ns then zPlace V s.toNatClampNeg else -1)) := by
  have hn := hK.2.1
  refine zSp_of (lv := [(0, .ref 64), (1, .int s)]) k_X12_lies rfl (Nat.le_of_ble_eq_true rfl) ?_
  refine zAloadN d_X12_lies_0 rfl rfl (q := 1) rfl ?_
  refine zIloadN d_X12_lies_1 rfl rfl (q := 2) rfl ?_
  refine zCallVP d_X12_lies_2 ml_X12_134 k_X12_isStar ki_X12_isStar ks_X12_isStar (sp_X12_isStar (d := d - 1) (by omega) hM hK) rfl rfl sh_64 (by decide) rfl (by decide) (Nat.le_of_ble_eq_true rfl) (by decide) (by omega) zns100 (q := 5) rfl ?_
  refine zIf_eq d_X12_lies_5 (tgt := 16) (q := 8) (by decide) rfl (fun h5 => ?_) (fun h5 => ?_)
  · have c := bi_0.mp h5
    rw [if_neg c]
    refine zIconst d_X12_lies_16 (v := -1) ic_m1 (q := 17) rfl ?_
    refine zIret d_X12_lies_17 rfl rfl rfl ?_
    exact zPi rfl
  · have c := bi_n0.mp h5
    rw [if_pos c]
    obtain ⟨k, hk, rfl⟩ := zn1 (by omega) c.1 c.2
    rw [zcl_n (by omega)]
    refine zAloadN d_X12_lies_8 rfl rfl (q := 9) rfl ?_
    refine zIloadN d_X12_lies_9 rfl rfl (q := 10) rfl ?_
    refine zCallVP d_X12_lies_10 ml_X12_315 k_X12_liesAt ki_X12_liesAt ks_X12_liesAt (sp_X12_liesAt (d := d - 1) (by omega) hM (by omega)) rfl rfl sh_64 (by decide) rfl (by decide) (Nat.le_of_ble_eq_true rfl) (by decide) (by omega) zns100 (q := 13) rfl ?_
    refine zGoto d_X12_lies_13 (q := 17) (by decide) ?_
    refine zIret d_X12_lies_17 rfl rfl rfl ?_
    exact zPi rfl
theorem sp_X12_brightIn (hd : 2 ≤ d) (hM : zMs I V) (hK : zSky V ns nt nh) {a b : Int32} : zPure g l d m_X12_brightIn [.ref 64, .int a, .int b] I L fs (.int (yBr V ns a b)) := by
  have hn := hK.2.1
  have m1 : I 64 1 = nI ns := hM.1.1.trans hK.1.1
  have mu : I 69 = V 7 := hM.2.1.2.2.2.2.1
  have mb : I 66 = V 4 := hM.2.1.2.1
  have loop : ∀ k, k ≤ ns → ∀ s, zfor (fun k s => if V 7 k = 1 ∧ (a ≤ zPlace V k ∧ zPlace V k ≤ b) then s + V 4 k else s) ns k s = yBr V ns a b → zA g l d m_X12_brightIn I L fs 5 [(4, .int (nI k)), (3, .int s), (0, .ref 64), (1, .int a), (2, .int b)] (zP (.int (yBr V ns a b)) (zU I L fs)) := by
    refine zloop ns (fun k hk ih s hx => ?_)
    refine zIload d_X12_brightIn_5 rfl (q := 7) rfl ?_
    refine zAloadN d_X12_brightIn_7 rfl rfl (q := 8) rfl ?_
    refine zGetI d_X12_brightIn_8 ff_X12_124 sh_64 (by decide) (q := 11) rfl ?_
    refine zIcmp_ge d_X12_brightIn_11 (tgt := 55) (q := 14) (by decide) rfl (fun h11 => ?_) (fun h11 => ?_)
    · have e := nle (m1 ▸ h11)
      refine zIloadN d_X12_brightIn_55 rfl rfl (q := 56) rfl ?_
      refine zIret d_X12_brightIn_56 rfl rfl rfl ?_
      exact zPi (by rw [← hx, zfor_end e])
    · have hlt := nnle (m1 ▸ h11)
      rw [zfor_step hlt] at hx
      refine zAloadN d_X12_brightIn_14 rfl rfl (q := 15) rfl ?_
      refine zGetR d_X12_brightIn_15 ff_X12_24 sh_64 (by decide) r_64_6 (q := 18) rfl ?_
      refine zIload d_X12_brightIn_18 rfl (q := 20) rfl ?_
      refine zIald d_X12_brightIn_20 sh_69 (by decide) rfl (by omega) (q := 21) rfl ?_
      rw [mu]
      refine zIconst d_X12_brightIn_21 (v := 1) ic_1 (q := 22) rfl ?_
      refine zIcmp_ne d_X12_brightIn_22 (tgt := 49) (q := 25) (by decide) rfl (fun h22 => ?_) (fun h22 => ?_)
      · refine zIinc d_X12_brightIn_49 rfl (zinc _) (by decide) rfl (q := 52) rfl ?_
        refine zGoto d_X12_brightIn_52 (q := 5) (by decide) ?_
        refine zSub [0, 1, 2, 3, 4] rfl ?_
        first
        | exact ih hlt _ (by rw [← hx]; congr 1; exact (if_pos ⟨h22, bi_n0.mp h36⟩).symm)
        | exact ih hlt _ (by rw [← hx]; congr 1; exact (if_neg (fun q => bi_0.mp h36 q.2)).symm)
        | exact ih hlt _ (by rw [← hx]; congr 1; exact (if_neg (fun q => h22 q.1)).symm)
      · refine zAloadN d_X12_brightIn_25 rfl rfl (q := 26) rfl ?_
        refine zIload d_X12_brightIn_26 rfl (q := 28) rfl ?_
        refine zCallVP d_X12_brightIn_28 ml_X12_315 k_X12_liesAt ki_X12_liesAt ks_X12_liesAt (sp_X12_liesAt (d := d - 1) (by omega) hM (by omega)) rfl rfl sh_64 (by decide) rfl (by decide) (Nat.le_of_ble_eq_true rfl) (by decide) (by omega) zns100 (q := 31) rfl ?_
        refine zIloadN d_X12_brightIn_31 rfl rfl (q := 32) rfl ?_
        refine zIloadN d_X12_brightIn_32 rfl rfl (q := 33) rfl ?_
        refine zCallSP d_X12_brightIn_33 ml_X12_127 k_X12_in kt_X12_in (sp_X12_in (d := d - 1) (by omega) ) rfl rfl (Nat.le_of_ble_eq_true rfl) (by decide) (by omega) zns100 (q := 36) rfl ?_
        refine zIf_eq d_X12_brightIn_36 (tgt := 49) (q := 39) (by decide) rfl (fun h36 => ?_) (fun h36 => ?_)
        · refine zIinc d_X12_brightIn_49 rfl (zinc _) (by decide) rfl (q := 52) rfl ?_
          refine zGoto d_X12_brightIn_52 (q := 5) (by decide) ?_
          refine zSub [0, 1, 2, 3, 4] rfl ?_
          first
          | exact ih hlt _ (by rw [← hx]; congr 1; exact (if_pos ⟨h22, bi_n0.mp h36⟩).symm)
          | exact ih hlt _ (by rw [← hx]; congr 1; exact (if_neg (fun q => bi_0.mp h36 q.2)).symm)
          | exact ih hlt _ (by rw [← hx]; congr 1; exact (if_neg (fun q => h22 q.1)).symm)
        · refine zIloadN d_X12_brightIn_39 rfl rfl (q := 40) rfl ?_
          refine zAloadN d_X12_brightIn_40 rfl rfl (q := 41) rfl ?_
          refine zGetR d_X12_brightIn_41 ff_X12_15 sh_64 (by decide) r_64_3 (q := 44) rfl ?_
          refine zIload d_X12_brightIn_44 rfl (q := 46) rfl ?_
          refine zIald d_X12_brightIn_46 sh_66 (by decide) rfl (by omega) (q := 47) rfl ?_
          rw [mb]
          refine zIadd d_X12_brightIn_47 (q := 48) rfl ?_
          refine zIstoreN d_X12_brightIn_48 rfl (by decide) rfl (q := 49) rfl ?_
          refine zIinc d_X12_brightIn_49 rfl (zinc _) (by decide) rfl (q := 52) rfl ?_
          refine zGoto d_X12_brightIn_52 (q := 5) (by decide) ?_
          refine zSub [0, 1, 2, 3, 4] rfl ?_
          first
          | exact ih hlt _ (by rw [← hx]; congr 1; exact (if_pos ⟨h22, bi_n0.mp h36⟩).symm)
          | exact ih hlt _ (by rw [← hx]; congr 1; exact (if_neg (fun q => bi_0.mp h36 q.2)).symm)
          | exact ih hlt _ (by rw [← hx]; congr 1; exact (if_neg (fun q => h22 q.1)).symm)
  refine zSp_of (lv := [(0, .ref 64), (1, .int a), (2, .int b)]) k_X12_brightIn rfl (Nat.le_of_ble_eq_true rfl) ?_
  refine zIconst d_X12_brightIn_0 (v := 0) ic_0 (q := 1) rfl ?_
  refine zIstoreN d_X12_brightIn_1 rfl (by decide) rfl (q := 2) rfl ?_
  refine zIconst d_X12_brightIn_2 (v := 0) ic_0 (q := 3) rfl ?_
  refine zIstore d_X12_brightIn_3 (by decide) rfl (q := 5) rfl ?_
  refine zSub [0, 1, 2, 3, 4] rfl ?_
  exact loop 0 (Nat.zero_le _) 0 rfl
theorem sp_X12_steerBy (hd : 1 ≤ d) (hM : zMs I V) (hK : zSky V ns nt nh) {up : Int32} : zPure g l d m_X12_steerBy [.ref 64, .int up] I L fs (.int (zSteer V nh up)) := by
  have hn := hK.2.2.2
  have m1 : I 64 11 = nI nh := hM.1.2.2.trans hK.1.2.2
  have mn : I 73 = V 11 := hM.2.1.2.2.2.2.2.2.2.2
  have loop : ∀ k, k ≤ nh → ∀ s, zfor (fun k s => if V 11 k &&& up = 0 then s else s ||| ((1 : Int32) <<< (nI k &&& 31))) nh k s = zSteer V nh up → zA g l d m_X12_steerBy I L fs 4 [(3, .int (nI k)), (2, .int s), (0, .ref 64), (1, .int up)] (zP (.int (zSteer V nh up)) (zU I L fs)) := by
    refine zloop nh (fun k hk ih s hx => ?_)
    refine zIloadN d_X12_steerBy_4 rfl rfl (q := 5) rfl ?_
    refine zAloadN d_X12_steerBy_5 rfl rfl (q := 6) rfl ?_
    refine zGetI d_X12_steerBy_6 ff_X12_157 sh_64 (by decide) (q := 9) rfl ?_
    refine zIcmp_ge d_X12_steerBy_9 (tgt := 35) (q := 12) (by decide) rfl (fun h9 => ?_) (fun h9 => ?_)
    · have e := nle (m1 ▸ h9)
      refine zIloadN d_X12_steerBy_35 rfl rfl (q := 36) rfl ?_
      refine zIret d_X12_steerBy_36 rfl rfl rfl ?_
      exact zPi (by rw [← hx, zfor_end e])
    · have hlt := nnle (m1 ▸ h9)
      rw [zfor_step hlt] at hx
      refine zAloadN d_X12_steerBy_12 rfl rfl (q := 13) rfl ?_
      refine zGetR d_X12_steerBy_13 ff_X12_36 sh_64 (by decide) r_64_12 (q := 16) rfl ?_
      refine zIloadN d_X12_steerBy_16 rfl rfl (q := 17) rfl ?_
      refine zIald d_X12_steerBy_17 sh_73 (by decide) rfl (by omega) (q := 18) rfl ?_
      rw [mn]
      refine zIloadN d_X12_steerBy_18 rfl rfl (q := 19) rfl ?_
      refine zIand d_X12_steerBy_19 (q := 20) rfl ?_
      refine zIf_eq d_X12_steerBy_20 (tgt := 29) (q := 23) (by decide) rfl (fun h20 => ?_) (fun h20 => ?_)
      · refine zIinc d_X12_steerBy_29 rfl (zinc _) (by decide) rfl (q := 32) rfl ?_
        refine zGoto d_X12_steerBy_32 (q := 4) (by decide) ?_
        refine zSub [0, 1, 2, 3] rfl ?_
        first | exact ih hlt _ (by rw [← hx]; congr 1; exact (if_neg h20).symm) | exact ih hlt _ (by rw [← hx]; congr 1; exact (if_pos h20).symm)
      · refine zIloadN d_X12_steerBy_23 rfl rfl (q := 24) rfl ?_
        refine zIconst d_X12_steerBy_24 (v := 1) ic_1 (q := 25) rfl ?_
        refine zIloadN d_X12_steerBy_25 rfl rfl (q := 26) rfl ?_
        refine zIshl d_X12_steerBy_26 (q := 27) rfl ?_
        refine zIor d_X12_steerBy_27 (q := 28) rfl ?_
        refine zIstoreN d_X12_steerBy_28 rfl (by decide) rfl (q := 29) rfl ?_
        refine zIinc d_X12_steerBy_29 rfl (zinc _) (by decide) rfl (q := 32) rfl ?_
        refine zGoto d_X12_steerBy_32 (q := 4) (by decide) ?_
        refine zSub [0, 1, 2, 3] rfl ?_
        first | exact ih hlt _ (by rw [← hx]; congr 1; exact (if_neg h20).symm) | exact ih hlt _ (by rw [← hx]; congr 1; exact (if_pos h20).symm)
  refine zSp_of (lv := [(0, .ref 64), (1, .int up)]) k_X12_steerBy rfl (Nat.le_of_ble_eq_true rfl) ?_
  refine zIconst d_X12_steerBy_0 (v := 0) ic_0 (q := 1) rfl ?_
  refine zIstoreN d_X12_steerBy_1 rfl (by decide) rfl (q := 2) rfl ?_
  refine zIconst d_X12_steerBy_2 (v := 0) ic_0 (q := 3) rfl ?_
  refine zIstoreN d_X12_steerBy_3 rfl (by decide) rfl (q := 4) rfl ?_
  refine zSub [0, 1, 2, 3] rfl ?_
  exact loop 0 (Nat.zero_le _) 0 rfl
theorem sp_X12_steer (hd : 2 ≤ d) (hM : zMs I V) (hK : zSky V ns nt nh) (hB : zBd V ns nt nh) : zPure g l d m_X12_steer [.ref 64] I L fs (.int (zSteer V nh (zbits (V 7) ns))) := by
  refine zSp_of (lv := [(0, .ref 64)]) k_X12_steer rfl (Nat.le_of_ble_eq_true rfl) ?_
  refine zAloadN d_X12_steer_0 rfl rfl (q := 1) rfl ?_
  refine zAloadN d_X12_steer_1 rfl rfl (q := 2) rfl ?_
  refine zCallVP d_X12_steer_2 ml_X12_321 k_X12_upNow ki_X12_upNow ks_X12_upNow (sp_X12_upNow (d := d - 1) (by omega) hM hK hB) rfl rfl sh_64 (by decide) rfl (by decide) (Nat.le_of_ble_eq_true rfl) (by decide) (by omega) zns100 (q := 5) rfl ?_
  refine zCallVP d_X12_steer_5 ml_X12_324 k_X12_steerBy ki_X12_steerBy ks_X12_steerBy (sp_X12_steerBy (d := d - 1) (by omega) hM hK) rfl rfl sh_64 (by decide) rfl (by decide) (Nat.le_of_ble_eq_true rfl) (by decide) (by omega) zns100 (q := 8) rfl ?_
  refine zIret d_X12_steer_8 rfl rfl rfl ?_
  exact zPi rfl
theorem sp_X12_allSteer (hd : 2 ≤ d) (hM : zMs I V) (hK : zSky V ns nt nh) {up : Int32} : zPure g l d m_X12_allSteer [.ref 64, .int up] I L fs (.int (bi (yAll V nh up))) := by
  have m1 : I 64 11 = nI nh := hM.1.2.2.trans hK.1.2.2
  refine zSp_of (lv := [(0, .ref 64), (1, .int up)]) k_X12_allSteer rfl (Nat.le_of_ble_eq_true rfl) ?_
  refine zAloadN d_X12_allSteer_0 rfl rfl (q := 1) rfl ?_
  refine zIloadN d_X12_allSteer_1 rfl rfl (q := 2) rfl ?_
  refine zCallVP d_X12_allSteer_2 ml_X12_324 k_X12_steerBy ki_X12_steerBy ks_X12_steerBy (sp_X12_steerBy (d := d - 1) (by omega) hM hK) rfl rfl sh_64 (by decide) rfl (by decide) (Nat.le_of_ble_eq_true rfl) (by decide) (by omega) zns100 (q := 5) rfl ?_
  refine zIconst d_X12_allSteer_5 (v := 1) ic_1 (q := 6) rfl ?_
  refine zAloadN d_X12_allSteer_6 rfl rfl (q := 7) rfl ?_
  refine zGetI d_X12_allSteer_7 ff_X12_157 sh_64 (by decide) (q := 10) rfl ?_
  rw [m1]
  refine zIshl d_X12_allSteer_10 (q := 11) rfl ?_
  refine zIconst d_X12_allSteer_11 (v := 1) ic_1 (q := 12) rfl ?_
  refine zIsub d_X12_allSteer_12 (q := 13) rfl ?_
  refine zIcmp_ne d_X12_allSteer_13 (tgt := 20) (q := 16) (by decide) rfl (fun h13 => ?_) (fun h13 => ?_)
  · refine zIconst d_X12_allSteer_20 (v := 0) ic_0 (q := 21) rfl ?_
    refine zIret d_X12_allSteer_21 rfl (by first | exact zn_bi | rfl) rfl ?_
    first | exact zPi (bi_t h13).symm | exact zPi (bi_f h13).symm
  · refine zIconst d_X12_allSteer_16 (v := 1) ic_1 (q := 17) rfl ?_
    refine zGoto d_X12_allSteer_17 (q := 21) (by decide) ?_
    refine zIret d_X12_allSteer_21 rfl (by first | exact zn_bi | rfl) rfl ?_
    first | exact zPi (bi_t h13).symm | exact zPi (bi_f h13).symm
theorem sp_X12_areSafe (hd : 3 ≤ d) (hM : zMs I V) (hK : zSky V ns nt nh) {set : Int32} : zPure g l d m_X12_areSafe [.ref 64, .int set] I L fs (.int (bi (ySafe V ns nh set))) := by
  have hn := hK.2.1
  have m1 : I 64 1 = nI ns := hM.1.1.trans hK.1.1
  have loop : ∀ k, k ≤ ns → zrun (ySfB V nh set) ns k = zrun (ySfB V nh set) ns 0 → zA g l d m_X12_areSafe I L fs 2 [(2, .int (nI k)), (0, .ref 64), (1, .int set)] (zP (.int (bi (ySafe V ns nh set))) (zU I L fs)) := by
    refine zloop ns (fun k hk ih hx => ?_)
    refine zIloadN d_X12_areSafe_2 rfl rfl (q := 3) rfl ?_
    refine zAloadN d_X12_areSafe_3 rfl rfl (q := 4) rfl ?_
    refine zGetI d_X12_areSafe_4 ff_X12_124 sh_64 (by decide) (q := 7) rfl ?_
    refine zIcmp_ge d_X12_areSafe_7 (tgt := 40) (q := 10) (by decide) rfl (fun h7 => ?_) (fun h7 => ?_)
    · have e : k = ns := by have := nle (m1 ▸ h7); omega
      rw [zrun_end (by omega)] at hx
      refine zAloadN d_X12_areSafe_40 rfl rfl (q := 41) rfl ?_
      refine zIloadN d_X12_areSafe_41 rfl rfl (q := 42) rfl ?_
      refine zCallVP d_X12_areSafe_42 ml_X12_330 k_X12_allSteer ki_X12_allSteer ks_X12_allSteer (sp_X12_allSteer (d := d - 1) (by omega) hM hK) rfl rfl sh_64 (by decide) rfl (by decide) (Nat.le_of_ble_eq_true rfl) (by decide) (by omega) zns100 (q := 45) rfl ?_
      refine zIret d_X12_areSafe_45 rfl (by first | exact zn_bi | rfl) rfl ?_
      exact zPi (bi_iff ⟨fun q => ⟨by omega, q⟩, fun q => q.2⟩)
    · have hlt := nnle (m1 ▸ h7)
      refine zIloadN d_X12_areSafe_10 rfl rfl (q := 11) rfl ?_
      refine zIloadN d_X12_areSafe_11 rfl rfl (q := 12) rfl ?_
      refine zCallSP d_X12_areSafe_12 ml_X12_327 k_X12_has kt_X12_has (sp_X12_has (d := d - 1) (by omega) ) rfl rfl (Nat.le_of_ble_eq_true rfl) (by decide) (by omega) zns100 (q := 15) rfl ?_
      refine zIf_eq d_X12_areSafe_15 (tgt := 34) (q := 18) (by decide) rfl (fun h15 => ?_) (fun h15 => ?_)
      · refine zIinc d_X12_areSafe_34 rfl (zinc _) (by decide) rfl (q := 37) rfl ?_
        refine zGoto d_X12_areSafe_37 (q := 2) (by decide) ?_
        refine zSub [0, 1, 2] rfl ?_
        first
        | (have c : ySfB V nh set k = true := (by unfold ySfB; rw [decide_eq_true_eq]; exact fun q => q.2 (bi_n0.mp h29)); exact ih hlt (by rw [← hx, zrun_t hlt c]))
        | (have c : ySfB V nh set k = true := (by unfold ySfB; rw [decide_eq_true_eq]; exact fun q => bi_0.mp h15 q.1); exact ih hlt (by rw [← hx, zrun_t hlt c]))
      · refine zAloadN d_X12_areSafe_18 rfl rfl (q := 19) rfl ?_
        refine zIloadN d_X12_areSafe_19 rfl rfl (q := 20) rfl ?_
        refine zIconst d_X12_areSafe_20 (v := 1) ic_1 (q := 21) rfl ?_
        refine zIloadN d_X12_areSafe_21 rfl rfl (q := 22) rfl ?_
        refine zIshl d_X12_areSafe_22 (q := 23) rfl ?_
        refine zIconst d_X12_areSafe_23 (v := -1) ic_m1 (q := 24) rfl ?_
        refine zIxor d_X12_areSafe_24 (q := 25) rfl ?_
        refine zIand d_X12_areSafe_25 (q := 26) rfl ?_
        refine zCallVP d_X12_areSafe_26 ml_X12_330 k_X12_allSteer ki_X12_allSteer ks_X12_allSteer (sp_X12_allSteer (d := d - 1) (by omega) hM hK) rfl rfl sh_64 (by decide) rfl (by decide) (Nat.le_of_ble_eq_true rfl) (by decide) (by omega) zns100 (q := 29) rfl ?_
        refine zIf_ne d_X12_areSafe_29 (tgt := 34) (q := 32) (by decide) rfl (fun h29 => ?_) (fun h29 => ?_)
        · refine zIinc d_X12_areSafe_34 rfl (zinc _) (by decide) rfl (q := 37) rfl ?_
          refine zGoto d_X12_areSafe_37 (q := 2) (by decide) ?_
          refine zSub [0, 1, 2] rfl ?_
          first
          | (have c : ySfB V nh set k = true := (by unfold ySfB; rw [decide_eq_true_eq]; exact fun q => q.2 (bi_n0.mp h29)); exact ih hlt (by rw [← hx, zrun_t hlt c]))
          | (have c : ySfB V nh set k = true := (by unfold ySfB; rw [decide_eq_true_eq]; exact fun q => bi_0.mp h15 q.1); exact ih hlt (by rw [← hx, zrun_t hlt c]))
        · refine zIconst d_X12_areSafe_32 (v := 0) ic_0 (q := 33) rfl ?_
          refine zIret d_X12_areSafe_33 rfl (by first | exact zn_bi | rfl) rfl ?_
          have c : ¬ ySfB V nh set k = true := by unfold ySfB; rw [decide_eq_true_eq]; exact fun q => q ⟨bi_n0.mp h15, bi_0.mp h29⟩
          rw [zrun_f c] at hx
          exact zPi (bi_f (fun q => by have := q.1; omega)).symm
  refine zSp_of (lv := [(0, .ref 64), (1, .int set)]) k_X12_areSafe rfl (Nat.le_of_ble_eq_true rfl) ?_
  refine zIconst d_X12_areSafe_0 (v := 0) ic_0 (q := 1) rfl ?_
  refine zIstoreN d_X12_areSafe_1 rfl (by decide) rfl (q := 2) rfl ?_
  refine zSub [0, 1, 2] rfl ?_
  exact loop 0 (Nat.zero_le _) rfl
end S47

