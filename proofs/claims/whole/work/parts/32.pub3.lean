theorem d_X11_act_0 : decode (zmc m_X11_act) 0 = .ok (.aload_n 0, 1) := by decide +kernel
theorem d_X11_act_1 : decode (zmc m_X11_act) 1 = .ok (.getfield 70, 3) := by decide +kernel
theorem d_X11_act_4 : decode (zmc m_X11_act) 4 = .ok (.iload_n 1, 1) := by decide +kernel
theorem d_X11_act_5 : decode (zmc m_X11_act) 5 = .ok (.iload_n 2, 1) := by decide +kernel
theorem d_X11_act_6 : decode (zmc m_X11_act) 6 = .ok (.iload_n 3, 1) := by decide +kernel
theorem d_X11_act_7 : decode (zmc m_X11_act) 7 = .ok (.invokevirtual 311, 3) := by decide +kernel
theorem d_X11_act_10 : decode (zmc m_X11_act) 10 = .ok (.ireturn, 1) := by decide +kernel
theorem d_X11_body_0 : decode (zmc m_X11_body) 0 = .ok (.aload_n 0, 1) := by decide +kernel
theorem d_X11_body_1 : decode (zmc m_X11_body) 1 = .ok (.getfield 70, 3) := by decide +kernel
theorem d_X11_body_4 : decode (zmc m_X11_body) 4 = .ok (.iload_n 1, 1) := by decide +kernel
theorem d_X11_body_5 : decode (zmc m_X11_body) 5 = .ok (.invokevirtual 310, 3) := by decide +kernel
theorem d_X11_body_8 : decode (zmc m_X11_body) 8 = .ok (.ireturn, 1) := by decide +kernel
theorem d_X11_element_0 : decode (zmc m_X11_element) 0 = .ok (.aload_n 0, 1) := by decide +kernel
theorem d_X11_element_1 : decode (zmc m_X11_element) 1 = .ok (.iload_n 1, 1) := by decide +kernel
theorem d_X11_element_2 : decode (zmc m_X11_element) 2 = .ok (.invokevirtual 95, 3) := by decide +kernel
theorem d_X11_element_5 : decode (zmc m_X11_element) 5 = .ok (.astore_n 3, 1) := by decide +kernel
theorem d_X11_element_6 : decode (zmc m_X11_element) 6 = .ok (.aload_n 3, 1) := by decide +kernel
theorem d_X11_element_7 : decode (zmc m_X11_element) 7 = .ok (.ifnull 18, 3) := by decide +kernel
theorem d_X11_element_10 : decode (zmc m_X11_element) 10 = .ok (.aload_n 3, 1) := by decide +kernel
theorem d_X11_element_11 : decode (zmc m_X11_element) 11 = .ok (.invokevirtual 332, 3) := by decide +kernel
theorem d_X11_element_14 : decode (zmc m_X11_element) 14 = .ok (.ifCond .eq 11, 3) := by decide +kernel
theorem d_X11_element_17 : decode (zmc m_X11_element) 17 = .ok (.aload_n 3, 1) := by decide +kernel
theorem d_X11_element_18 : decode (zmc m_X11_element) 18 = .ok (.iload_n 2, 1) := by decide +kernel
theorem d_X11_element_19 : decode (zmc m_X11_element) 19 = .ok (.invokevirtual 335, 3) := by decide +kernel
theorem d_X11_element_22 : decode (zmc m_X11_element) 22 = .ok (.ifCond .ne 7, 3) := by decide +kernel
theorem d_X11_element_25 : decode (zmc m_X11_element) 25 = .ok (.ldc2_w 178, 3) := by decide +kernel
theorem d_X11_element_28 : decode (zmc m_X11_element) 28 = .ok (.lreturn, 1) := by decide +kernel
theorem d_X11_element_29 : decode (zmc m_X11_element) 29 = .ok (.aload_n 3, 1) := by decide +kernel
theorem d_X11_element_30 : decode (zmc m_X11_element) 30 = .ok (.getfield 342, 3) := by decide +kernel
theorem d_X11_element_33 : decode (zmc m_X11_element) 33 = .ok (.iload_n 2, 1) := by decide +kernel
theorem d_X11_element_34 : decode (zmc m_X11_element) 34 = .ok (.laload, 1) := by decide +kernel
theorem d_X11_element_35 : decode (zmc m_X11_element) 35 = .ok (.lreturn, 1) := by decide +kernel
theorem d_X11_keep_0 : decode (zmc m_X11_keep) 0 = .ok (.aload_n 0, 1) := by decide +kernel
theorem d_X11_keep_1 : decode (zmc m_X11_keep) 1 = .ok (.iload_n 1, 1) := by decide +kernel
theorem d_X11_keep_2 : decode (zmc m_X11_keep) 2 = .ok (.invokevirtual 95, 3) := by decide +kernel
theorem d_X11_keep_5 : decode (zmc m_X11_keep) 5 = .ok (.astore_n 3, 1) := by decide +kernel
theorem d_X11_keep_6 : decode (zmc m_X11_keep) 6 = .ok (.aload_n 3, 1) := by decide +kernel
theorem d_X11_keep_7 : decode (zmc m_X11_keep) 7 = .ok (.ifnull 19, 3) := by decide +kernel
theorem d_X11_keep_10 : decode (zmc m_X11_keep) 10 = .ok (.iload_n 2, 1) := by decide +kernel
theorem d_X11_keep_11 : decode (zmc m_X11_keep) 11 = .ok (.iconst (-1), 1) := by decide +kernel
theorem d_X11_keep_12 : decode (zmc m_X11_keep) 12 = .ok (.if_icmp .lt 14, 3) := by decide +kernel
theorem d_X11_keep_15 : decode (zmc m_X11_keep) 15 = .ok (.iload_n 2, 1) := by decide +kernel
theorem d_X11_keep_16 : decode (zmc m_X11_keep) 16 = .ok (.aload_n 0, 1) := by decide +kernel
theorem d_X11_keep_17 : decode (zmc m_X11_keep) 17 = .ok (.getfield 70, 3) := by decide +kernel
theorem d_X11_keep_20 : decode (zmc m_X11_keep) 20 = .ok (.getfield 320, 3) := by decide +kernel
theorem d_X11_keep_23 : decode (zmc m_X11_keep) 23 = .ok (.if_icmp .lt 5, 3) := by decide +kernel
theorem d_X11_keep_26 : decode (zmc m_X11_keep) 26 = .ok (.iconst (-1), 1) := by decide +kernel
theorem d_X11_keep_27 : decode (zmc m_X11_keep) 27 = .ok (.ireturn, 1) := by decide +kernel
theorem d_X11_keep_28 : decode (zmc m_X11_keep) 28 = .ok (.iload_n 2, 1) := by decide +kernel
theorem d_X11_keep_29 : decode (zmc m_X11_keep) 29 = .ok (.iconst (-1), 1) := by decide +kernel
theorem d_X11_keep_30 : decode (zmc m_X11_keep) 30 = .ok (.if_icmp .ne 10, 3) := by decide +kernel
theorem d_X11_keep_33 : decode (zmc m_X11_keep) 33 = .ok (.aload_n 3, 1) := by decide +kernel
theorem d_X11_keep_34 : decode (zmc m_X11_keep) 34 = .ok (.invokevirtual 323, 3) := by decide +kernel
theorem d_X11_keep_37 : decode (zmc m_X11_keep) 37 = .ok (.goto 8, 3) := by decide +kernel
theorem d_X11_keep_40 : decode (zmc m_X11_keep) 40 = .ok (.aload_n 3, 1) := by decide +kernel
theorem d_X11_keep_41 : decode (zmc m_X11_keep) 41 = .ok (.iload_n 2, 1) := by decide +kernel
theorem d_X11_keep_42 : decode (zmc m_X11_keep) 42 = .ok (.invokevirtual 326, 3) := by decide +kernel
theorem d_X11_keep_45 : decode (zmc m_X11_keep) 45 = .ok (.iconst 1, 1) := by decide +kernel
theorem d_X11_keep_46 : decode (zmc m_X11_keep) 46 = .ok (.ireturn, 1) := by decide +kernel
theorem d_X11_put_0 : decode (zmc m_X11_put) 0 = .ok (.aload_n 0, 1) := by decide +kernel
theorem d_X11_put_1 : decode (zmc m_X11_put) 1 = .ok (.iload_n 1, 1) := by decide +kernel
theorem d_X11_put_2 : decode (zmc m_X11_put) 2 = .ok (.invokevirtual 95, 3) := by decide +kernel
theorem d_X11_put_5 : decode (zmc m_X11_put) 5 = .ok (.astore 5, 2) := by decide +kernel
theorem d_X11_put_7 : decode (zmc m_X11_put) 7 = .ok (.aload 5, 2) := by decide +kernel
theorem d_X11_put_9 : decode (zmc m_X11_put) 9 = .ok (.ifnonnull 5, 3) := by decide +kernel
theorem d_X11_put_12 : decode (zmc m_X11_put) 12 = .ok (.iconst (-1), 1) := by decide +kernel
theorem d_X11_put_13 : decode (zmc m_X11_put) 13 = .ok (.ireturn, 1) := by decide +kernel
theorem d_X11_put_14 : decode (zmc m_X11_put) 14 = .ok (.aload 5, 2) := by decide +kernel
theorem d_X11_put_16 : decode (zmc m_X11_put) 16 = .ok (.invokevirtual 332, 3) := by decide +kernel
theorem d_X11_put_19 : decode (zmc m_X11_put) 19 = .ok (.ifCond .ne 9, 3) := by decide +kernel
theorem d_X11_put_22 : decode (zmc m_X11_put) 22 = .ok (.aload 5, 2) := by decide +kernel
theorem d_X11_put_24 : decode (zmc m_X11_put) 24 = .ok (.invokevirtual 159, 3) := by decide +kernel
theorem d_X11_put_27 : decode (zmc m_X11_put) 27 = .ok (.ireturn, 1) := by decide +kernel
theorem d_X11_put_28 : decode (zmc m_X11_put) 28 = .ok (.aload 5, 2) := by decide +kernel
theorem d_X11_put_30 : decode (zmc m_X11_put) 30 = .ok (.iload_n 2, 1) := by decide +kernel
theorem d_X11_put_31 : decode (zmc m_X11_put) 31 = .ok (.invokevirtual 335, 3) := by decide +kernel
theorem d_X11_put_34 : decode (zmc m_X11_put) 34 = .ok (.ifCond .ne 6, 3) := by decide +kernel
theorem d_X11_put_37 : decode (zmc m_X11_put) 37 = .ok (.bipush (-13), 2) := by decide +kernel
theorem d_X11_put_39 : decode (zmc m_X11_put) 39 = .ok (.ireturn, 1) := by decide +kernel
theorem d_X11_put_40 : decode (zmc m_X11_put) 40 = .ok (.aload 5, 2) := by decide +kernel
theorem d_X11_put_42 : decode (zmc m_X11_put) 42 = .ok (.iload_n 2, 1) := by decide +kernel
theorem d_X11_put_43 : decode (zmc m_X11_put) 43 = .ok (.lload_n 3, 1) := by decide +kernel
theorem d_X11_put_44 : decode (zmc m_X11_put) 44 = .ok (.invokevirtual 338, 3) := by decide +kernel
theorem d_X11_put_47 : decode (zmc m_X11_put) 47 = .ok (.iconst 1, 1) := by decide +kernel
theorem d_X11_put_48 : decode (zmc m_X11_put) 48 = .ok (.ireturn, 1) := by decide +kernel
theorem d_X11_row_0 : decode (zmc m_X11_row) 0 = .ok (.aload_n 0, 1) := by decide +kernel
theorem d_X11_row_1 : decode (zmc m_X11_row) 1 = .ok (.iload_n 1, 1) := by decide +kernel
theorem d_X11_row_2 : decode (zmc m_X11_row) 2 = .ok (.invokevirtual 95, 3) := by decide +kernel
theorem d_X11_row_5 : decode (zmc m_X11_row) 5 = .ok (.astore 4, 2) := by decide +kernel
theorem d_X11_row_7 : decode (zmc m_X11_row) 7 = .ok (.aload 4, 2) := by decide +kernel
theorem d_X11_row_9 : decode (zmc m_X11_row) 9 = .ok (.ifnull 18, 3) := by decide +kernel
theorem d_X11_row_12 : decode (zmc m_X11_row) 12 = .ok (.iload_n 2, 1) := by decide +kernel
theorem d_X11_row_13 : decode (zmc m_X11_row) 13 = .ok (.ifCond .lt 14, 3) := by decide +kernel
theorem d_X11_row_16 : decode (zmc m_X11_row) 16 = .ok (.iload_n 2, 1) := by decide +kernel
theorem d_X11_row_17 : decode (zmc m_X11_row) 17 = .ok (.iconst 4, 1) := by decide +kernel
theorem d_X11_row_18 : decode (zmc m_X11_row) 18 = .ok (.if_icmp .gt 9, 3) := by decide +kernel
theorem d_X11_row_21 : decode (zmc m_X11_row) 21 = .ok (.iload_n 3, 1) := by decide +kernel
theorem d_X11_row_22 : decode (zmc m_X11_row) 22 = .ok (.bipush 60, 2) := by decide +kernel
theorem d_X11_row_24 : decode (zmc m_X11_row) 24 = .ok (.if_icmp .le 5, 3) := by decide +kernel
theorem d_X11_row_27 : decode (zmc m_X11_row) 27 = .ok (.iconst (-1), 1) := by decide +kernel
theorem d_X11_row_28 : decode (zmc m_X11_row) 28 = .ok (.ireturn, 1) := by decide +kernel
theorem d_X11_row_29 : decode (zmc m_X11_row) 29 = .ok (.iload_n 3, 1) := by decide +kernel
theorem d_X11_row_30 : decode (zmc m_X11_row) 30 = .ok (.ifCond .ge 6, 3) := by decide +kernel
theorem d_X11_row_33 : decode (zmc m_X11_row) 33 = .ok (.bipush (-14), 2) := by decide +kernel
theorem d_X11_row_35 : decode (zmc m_X11_row) 35 = .ok (.ireturn, 1) := by decide +kernel
theorem d_X11_row_36 : decode (zmc m_X11_row) 36 = .ok (.aload 4, 2) := by decide +kernel
theorem d_X11_row_38 : decode (zmc m_X11_row) 38 = .ok (.iload_n 2, 1) := by decide +kernel
theorem d_X11_row_39 : decode (zmc m_X11_row) 39 = .ok (.iload_n 3, 1) := by decide +kernel
theorem d_X11_row_40 : decode (zmc m_X11_row) 40 = .ok (.invokevirtual 329, 3) := by decide +kernel
theorem d_X11_row_43 : decode (zmc m_X11_row) 43 = .ok (.iconst 1, 1) := by decide +kernel
theorem d_X11_row_44 : decode (zmc m_X11_row) 44 = .ok (.ireturn, 1) := by decide +kernel
theorem d_X11_shelfAt_0 : decode (zmc m_X11_shelfAt) 0 = .ok (.iload_n 1, 1) := by decide +kernel
theorem d_X11_shelfAt_1 : decode (zmc m_X11_shelfAt) 1 = .ok (.ifCond .lt 18, 3) := by decide +kernel
theorem d_X11_shelfAt_4 : decode (zmc m_X11_shelfAt) 4 = .ok (.iload_n 1, 1) := by decide +kernel
theorem d_X11_shelfAt_5 : decode (zmc m_X11_shelfAt) 5 = .ok (.bipush 6, 2) := by decide +kernel
theorem d_X11_shelfAt_7 : decode (zmc m_X11_shelfAt) 7 = .ok (.if_icmp .ge 12, 3) := by decide +kernel
theorem d_X11_shelfAt_10 : decode (zmc m_X11_shelfAt) 10 = .ok (.aload_n 0, 1) := by decide +kernel
theorem d_X11_shelfAt_11 : decode (zmc m_X11_shelfAt) 11 = .ok (.getfield 76, 3) := by decide +kernel
theorem d_X11_shelfAt_14 : decode (zmc m_X11_shelfAt) 14 = .ok (.iload_n 1, 1) := by decide +kernel
theorem d_X11_shelfAt_15 : decode (zmc m_X11_shelfAt) 15 = .ok (.aaload, 1) := by decide +kernel
theorem d_X11_shelfAt_16 : decode (zmc m_X11_shelfAt) 16 = .ok (.goto 4, 3) := by decide +kernel
theorem d_X11_shelfAt_19 : decode (zmc m_X11_shelfAt) 19 = .ok (.aconst_null, 1) := by decide +kernel
theorem d_X11_shelfAt_20 : decode (zmc m_X11_shelfAt) 20 = .ok (.areturn, 1) := by decide +kernel
theorem d_X11_taken_0 : decode (zmc m_X11_taken) 0 = .ok (.aload_n 0, 1) := by decide +kernel
theorem d_X11_taken_1 : decode (zmc m_X11_taken) 1 = .ok (.iload_n 1, 1) := by decide +kernel
theorem d_X11_taken_2 : decode (zmc m_X11_taken) 2 = .ok (.invokevirtual 95, 3) := by decide +kernel
theorem d_X11_taken_5 : decode (zmc m_X11_taken) 5 = .ok (.astore_n 3, 1) := by decide +kernel
theorem d_X11_taken_6 : decode (zmc m_X11_taken) 6 = .ok (.aload_n 3, 1) := by decide +kernel
theorem d_X11_taken_7 : decode (zmc m_X11_taken) 7 = .ok (.ifnull 13, 3) := by decide +kernel
theorem d_X11_taken_10 : decode (zmc m_X11_taken) 10 = .ok (.iload_n 2, 1) := by decide +kernel
theorem d_X11_taken_11 : decode (zmc m_X11_taken) 11 = .ok (.ifCond .lt 9, 3) := by decide +kernel
theorem d_X11_taken_14 : decode (zmc m_X11_taken) 14 = .ok (.iload_n 2, 1) := by decide +kernel
theorem d_X11_taken_15 : decode (zmc m_X11_taken) 15 = .ok (.bipush 8, 2) := by decide +kernel
theorem d_X11_taken_17 : decode (zmc m_X11_taken) 17 = .ok (.if_icmp .lt 5, 3) := by decide +kernel
theorem d_X11_taken_20 : decode (zmc m_X11_taken) 20 = .ok (.iconst (-1), 1) := by decide +kernel
theorem d_X11_taken_21 : decode (zmc m_X11_taken) 21 = .ok (.ireturn, 1) := by decide +kernel
theorem d_X11_taken_22 : decode (zmc m_X11_taken) 22 = .ok (.aload_n 3, 1) := by decide +kernel
theorem d_X11_taken_23 : decode (zmc m_X11_taken) 23 = .ok (.invokevirtual 358, 3) := by decide +kernel
theorem d_X11_taken_26 : decode (zmc m_X11_taken) 26 = .ok (.ifCond .ne 8, 3) := by decide +kernel
theorem d_X11_taken_29 : decode (zmc m_X11_taken) 29 = .ok (.aload_n 3, 1) := by decide +kernel
theorem d_X11_taken_30 : decode (zmc m_X11_taken) 30 = .ok (.invokevirtual 159, 3) := by decide +kernel
theorem d_X11_taken_33 : decode (zmc m_X11_taken) 33 = .ok (.ireturn, 1) := by decide +kernel
theorem d_X11_taken_34 : decode (zmc m_X11_taken) 34 = .ok (.aload_n 0, 1) := by decide +kernel
theorem d_X11_taken_35 : decode (zmc m_X11_taken) 35 = .ok (.getfield 70, 3) := by decide +kernel
theorem d_X11_taken_38 : decode (zmc m_X11_taken) 38 = .ok (.aload_n 3, 1) := by decide +kernel
theorem d_X11_taken_39 : decode (zmc m_X11_taken) 39 = .ok (.getfield 361, 3) := by decide +kernel
theorem d_X11_taken_42 : decode (zmc m_X11_taken) 42 = .ok (.invokevirtual 364, 3) := by decide +kernel
theorem d_X11_taken_45 : decode (zmc m_X11_taken) 45 = .ok (.istore 4, 2) := by decide +kernel
theorem d_X11_taken_47 : decode (zmc m_X11_taken) 47 = .ok (.iload 4, 2) := by decide +kernel
theorem d_X11_taken_49 : decode (zmc m_X11_taken) 49 = .ok (.iload_n 2, 1) := by decide +kernel
theorem d_X11_taken_50 : decode (zmc m_X11_taken) 50 = .ok (.invokestatic 367, 3) := by decide +kernel
theorem d_X11_taken_53 : decode (zmc m_X11_taken) 53 = .ok (.ifCond .eq 8, 3) := by decide +kernel
theorem d_X11_taken_56 : decode (zmc m_X11_taken) 56 = .ok (.iload 4, 2) := by decide +kernel
theorem d_X11_taken_58 : decode (zmc m_X11_taken) 58 = .ok (.goto 5, 3) := by decide +kernel
theorem d_X11_taken_61 : decode (zmc m_X11_taken) 61 = .ok (.bipush (-12), 2) := by decide +kernel
theorem d_X11_taken_63 : decode (zmc m_X11_taken) 63 = .ok (.ireturn, 1) := by decide +kernel
theorem d_X11_trace_0 : decode (zmc m_X11_trace) 0 = .ok (.iload_n 1, 1) := by decide +kernel
theorem d_X11_trace_1 : decode (zmc m_X11_trace) 1 = .ok (.ifCond .lt 26, 3) := by decide +kernel
theorem d_X11_trace_4 : decode (zmc m_X11_trace) 4 = .ok (.iload_n 1, 1) := by decide +kernel
theorem d_X11_trace_5 : decode (zmc m_X11_trace) 5 = .ok (.aload_n 0, 1) := by decide +kernel
theorem d_X11_trace_6 : decode (zmc m_X11_trace) 6 = .ok (.getfield 70, 3) := by decide +kernel
theorem d_X11_trace_9 : decode (zmc m_X11_trace) 9 = .ok (.invokevirtual 314, 3) := by decide +kernel
theorem d_X11_trace_12 : decode (zmc m_X11_trace) 12 = .ok (.if_icmp .ge 15, 3) := by decide +kernel
theorem d_X11_trace_15 : decode (zmc m_X11_trace) 15 = .ok (.aload_n 0, 1) := by decide +kernel
theorem d_X11_trace_16 : decode (zmc m_X11_trace) 16 = .ok (.getfield 70, 3) := by decide +kernel
theorem d_X11_trace_19 : decode (zmc m_X11_trace) 19 = .ok (.getfield 317, 3) := by decide +kernel
theorem d_X11_trace_22 : decode (zmc m_X11_trace) 22 = .ok (.iload_n 1, 1) := by decide +kernel
theorem d_X11_trace_23 : decode (zmc m_X11_trace) 23 = .ok (.iaload, 1) := by decide +kernel
theorem d_X11_trace_24 : decode (zmc m_X11_trace) 24 = .ok (.goto 4, 3) := by decide +kernel
theorem d_X11_trace_27 : decode (zmc m_X11_trace) 27 = .ok (.iconst (-1), 1) := by decide +kernel
theorem d_X11_trace_28 : decode (zmc m_X11_trace) 28 = .ok (.ireturn, 1) := by decide +kernel
/-! WHAT A WATCH ANSWERS, THE SHELVES -/
theorem zshR {k : Nat} {fs : Nat × Nat × Option Nat} (hk : k < 6) : zR fs 41 k = some (42 + 2 * k) := by
  match k, hk with
  | 0, _ => rfl
  | 1, _ => rfl
  | 2, _ => rfl
  | 3, _ => rfl
  | 4, _ => rfl
  | 5, _ => rfl
section S32
variable {g : zG} {l : Launch} {d : Nat} {I : Nat → Nat → Int32} {L : Nat → Nat → Int64} {fs : Nat × Nat × Option Nat} {ns nt nh h h2 : Nat} {o : Option Nat}
theorem sp_shelf {k : Nat} (hd : 1 ≤ d) (hk : k < 6) : zPure g l d m_X11_shelfAt [.ref 0, .int (nI k)] I L fs (.ref (42 + 2 * k)) := by
  refine zSp_of (lv := [(0, .ref 0), (1, .int (nI k))]) k_X11_shelfAt rfl (Nat.le_of_ble_eq_true rfl) ?_
  refine zIloadN d_X11_shelfAt_0 rfl rfl (q := 1) rfl ?_
  refine zIf_lt d_X11_shelfAt_1 (tgt := 19) (q := 4) (by decide) rfl (fun h => absurd h (nI_pos (by omega))) (fun h1 => ?_)
  refine zIloadN d_X11_shelfAt_4 rfl rfl (q := 5) rfl ?_
  refine zBipush d_X11_shelfAt_5 (v := 6) bc_6 (q := 7) rfl ?_
  refine zIcmp_ge d_X11_shelfAt_7 (tgt := 19) (q := 10) (by decide) rfl (fun h => absurd h (nI_ge (b := 6) hk (by decide))) (fun h7 => ?_)
  refine zAloadN d_X11_shelfAt_10 rfl rfl (q := 11) rfl ?_
  refine zGetR d_X11_shelfAt_11 ff_X11_76 sh_0 (by decide) r_0_9 (q := 14) rfl ?_
  refine zIloadN d_X11_shelfAt_14 rfl rfl (q := 15) rfl ?_
  refine zAaldSh d_X11_shelfAt_15 sh_41 (by decide) rfl hk (zshR hk) (q := 16) rfl ?_
  refine zGoto d_X11_shelfAt_16 (q := 20) (by decide) ?_
  refine zAret d_X11_shelfAt_20 rfl (Or.inl ⟨_, rfl⟩) (Or.inr ⟨_, rfl⟩) rfl ?_
  exact ⟨rfl, rfl⟩
theorem sp_shelf0 {i : Int32} (hd : 1 ≤ d) (hi : ¬ (0 ≤ i ∧ i < 6)) : zPure g l d m_X11_shelfAt [.ref 0, .int i] I L fs .null := by
  refine zSp_of (lv := [(0, .ref 0), (1, .int i)]) k_X11_shelfAt rfl (Nat.le_of_ble_eq_true rfl) ?_
  refine zIloadN d_X11_shelfAt_0 rfl rfl (q := 1) rfl ?_
  refine zIf_lt d_X11_shelfAt_1 (tgt := 19) (q := 4) (by decide) rfl (fun h1 => ?_) (fun h1 => ?_)
  · refine zNull d_X11_shelfAt_19 (q := 20) rfl ?_
    refine zAret d_X11_shelfAt_20 rfl (Or.inl ⟨_, rfl⟩) (Or.inl rfl) rfl ?_
    exact ⟨rfl, rfl⟩
  · refine zIloadN d_X11_shelfAt_4 rfl rfl (q := 5) rfl ?_
    refine zBipush d_X11_shelfAt_5 (v := 6) bc_6 (q := 7) rfl ?_
    refine zIcmp_ge d_X11_shelfAt_7 (tgt := 19) (q := 10) (by decide) rfl (fun h7 => ?_) (fun h => absurd (Int32.not_lt.mp (fun q => hi (And.intro (Int32.not_lt.mp h1) q))) h)
    refine zNull d_X11_shelfAt_19 (q := 20) rfl ?_
    refine zAret d_X11_shelfAt_20 rfl (Or.inl ⟨_, rfl⟩) (Or.inl rfl) rfl ?_
    exact ⟨rfl, rfl⟩
theorem sp_X11_keep0 {i b : Int32} (hd : 2 ≤ d) (hi : ¬ (0 ≤ i ∧ i < 6)) : zPure g l d m_X11_keep [.ref 0, .int i, .int b] I L fs (.int (-1)) := by
  refine zSp_of (lv := [(0, .ref 0), (1, .int i), (2, .int b)]) k_X11_keep rfl (Nat.le_of_ble_eq_true rfl) ?_
  refine zAloadN d_X11_keep_0 rfl rfl (q := 1) rfl ?_
  refine zIloadN d_X11_keep_1 rfl rfl (q := 2) rfl ?_
  refine zCallVP d_X11_keep_2 ml_X11_95 k_X11_shelfAt ki_X11_shelfAt ks_X11_shelfAt (sp_shelf0 (d := d - 1) (by omega) hi) rfl rfl sh_0 (by decide) rfl (by decide) (Nat.le_of_ble_eq_true rfl) (by decide) (by omega) zns100 (q := 5) rfl ?_
  refine zAstoreNN d_X11_keep_5 rfl (by decide) rfl (q := 6) rfl ?_
  refine zAloadNN d_X11_keep_6 rfl rfl (q := 7) rfl ?_
  refine zIfnull0 d_X11_keep_7 (q := 26) (by decide) ?_
  refine zIconst d_X11_keep_26 (v := -1) ic_m1 (q := 27) rfl ?_
  refine zIret d_X11_keep_27 rfl rfl rfl ?_
  exact zPi rfl
theorem sp_X11_keep {k : Nat} {b : Int32} (hd : 2 ≤ d) (hk : k < 6) : zSp g l d 100 m_X11_keep [.ref 0, .int (nI k), .int b] (zU I L fs) (zX (fun x w => (¬ (-1 ≤ b ∧ b < I 38 2) ∧ x = -1 ∧ w = zU I L fs) ∨ ((-1 ≤ b ∧ b < I 38 2) ∧ x = 1 ∧ w = zU (zup I (42 + 2 * k) (if b = -1 then zup (I (42 + 2 * k)) 1 (-1) else zup (zup (I (42 + 2 * k)) 1 5) 3 b)) L fs))) := by
  have hh := zshf hk
  refine zSp_of (lv := [(0, .ref 0), (1, .int (nI k)), (2, .int b)]) k_X11_keep rfl (Nat.le_of_ble_eq_true rfl) ?_
  refine zAloadN d_X11_keep_0 rfl rfl (q := 1) rfl ?_
  refine zIloadN d_X11_keep_1 rfl rfl (q := 2) rfl ?_
  refine zCallVP d_X11_keep_2 ml_X11_95 k_X11_shelfAt ki_X11_shelfAt ks_X11_shelfAt (sp_shelf (d := d - 1) (by omega) hk) rfl rfl sh_0 (by decide) rfl (by decide) (Nat.le_of_ble_eq_true rfl) (by decide) (by omega) zns100 (q := 5) rfl ?_
  refine zAstoreN d_X11_keep_5 rfl (by decide) rfl (q := 6) rfl ?_
  refine zAloadN d_X11_keep_6 rfl rfl (q := 7) rfl ?_
  refine zIfnull d_X11_keep_7 (q := 10) rfl ?_
  refine zIloadN d_X11_keep_10 rfl rfl (q := 11) rfl ?_
  refine zIconst d_X11_keep_11 (v := -1) ic_m1 (q := 12) rfl ?_
  refine zIcmp_lt d_X11_keep_12 (tgt := 26) (q := 15) (by decide) rfl (fun h12 => ?_) (fun h12 => ?_)
  · have hc : ¬ (-1 ≤ b ∧ b < I 38 2) := fun q => Int32.not_lt.mpr q.1 h12
    refine zIconst d_X11_keep_26 (v := -1) ic_m1 (q := 27) rfl ?_
    refine zIret d_X11_keep_27 rfl rfl rfl ?_
    exact ⟨_, rfl, Or.inl ⟨hc, rfl, rfl⟩⟩
  · refine zIloadN d_X11_keep_15 rfl rfl (q := 16) rfl ?_
    refine zAloadN d_X11_keep_16 rfl rfl (q := 17) rfl ?_
    refine zGetR d_X11_keep_17 ff_X11_70 sh_0 (by decide) r_0_8 (q := 20) rfl ?_
    refine zGetI d_X11_keep_20 ff_X11_320 sh_38 (by decide) (q := 23) rfl ?_
    refine zIcmp_lt d_X11_keep_23 (tgt := 28) (q := 26) (by decide) rfl (fun h23 => ?_) (fun h23 => ?_)
    · have hc : -1 ≤ b ∧ b < I 38 2 := And.intro (Int32.not_lt.mp h12) h23
      refine zIloadN d_X11_keep_28 rfl rfl (q := 29) rfl ?_
      refine zIconst d_X11_keep_29 (v := -1) ic_m1 (q := 30) rfl ?_
      refine zIcmp_ne d_X11_keep_30 (tgt := 40) (q := 33) (by decide) rfl (fun h30 => ?_) (fun h30 => ?_)
      · have hb : ¬ b = -1 := h30
        refine zAloadN d_X11_keep_40 rfl rfl (q := 41) rfl ?_
        refine zIloadN d_X11_keep_41 rfl rfl (q := 42) rfl ?_
        refine zCallVV d_X11_keep_42 ml_X11_326 k_X8_holdBody ki_X8_holdBody ks_X8_holdBody (sp_X8_holdBody (d := d - 1) (by omega) hh) rfl rfl hh.1 (by decide) rfl (Nat.lt_of_succ_lt hh.2.2.1) (Nat.le_of_ble_eq_true rfl) (by decide) (by omega) zns100 (q := 45) rfl (fun w' hw' => ?_)
        subst hw'
        refine zIconst d_X11_keep_45 (v := 1) ic_1 (q := 46) rfl ?_
        refine zIret d_X11_keep_46 rfl rfl rfl ?_
        exact ⟨_, rfl, Or.inr ⟨hc, rfl, by first | rw [if_pos hb] | rw [if_neg hb]⟩⟩
      · have hb : b = -1 := by simpa using h30
        refine zAloadN d_X11_keep_33 rfl rfl (q := 34) rfl ?_
        refine zCallVV d_X11_keep_34 ml_X11_323 k_X8_holdNothing ki_X8_holdNothing ks_X8_holdNothing (sp_X8_holdNothing (d := d - 1) (by omega) hh) rfl rfl hh.1 (by decide) rfl (Nat.lt_of_succ_lt hh.2.2.1) (Nat.le_of_ble_eq_true rfl) (by decide) (by omega) zns100 (q := 37) rfl (fun w' hw' => ?_)
        subst hw'
        refine zGoto d_X11_keep_37 (q := 45) (by decide) ?_
        refine zIconst d_X11_keep_45 (v := 1) ic_1 (q := 46) rfl ?_
        refine zIret d_X11_keep_46 rfl rfl rfl ?_
        exact ⟨_, rfl, Or.inr ⟨hc, rfl, by first | rw [if_pos hb] | rw [if_neg hb]⟩⟩
    · have hc : ¬ (-1 ≤ b ∧ b < I 38 2) := fun q => h23 q.2
      refine zIconst d_X11_keep_26 (v := -1) ic_m1 (q := 27) rfl ?_
      refine zIret d_X11_keep_27 rfl rfl rfl ?_
      exact ⟨_, rfl, Or.inl ⟨hc, rfl, rfl⟩⟩
theorem sp_X11_row0 {i b n : Int32} (hd : 2 ≤ d) (hi : ¬ (0 ≤ i ∧ i < 6)) : zPure g l d m_X11_row [.ref 0, .int i, .int b, .int n] I L fs (.int (-1)) := by
  refine zSp_of (lv := [(0, .ref 0), (1, .int i), (2, .int b), (3, .int n)]) k_X11_row rfl (Nat.le_of_ble_eq_true rfl) ?_
  refine zAloadN d_X11_row_0 rfl rfl (q := 1) rfl ?_
  refine zIloadN d_X11_row_1 rfl rfl (q := 2) rfl ?_
  refine zCallVP d_X11_row_2 ml_X11_95 k_X11_shelfAt ki_X11_shelfAt ks_X11_shelfAt (sp_shelf0 (d := d - 1) (by omega) hi) rfl rfl sh_0 (by decide) rfl (by decide) (Nat.le_of_ble_eq_true rfl) (by decide) (by omega) zns100 (q := 5) rfl ?_
  refine zAstore0 d_X11_row_5 (by decide) rfl (q := 7) rfl ?_
  refine zAload0 d_X11_row_7 rfl (q := 9) rfl ?_
  refine zIfnull0 d_X11_row_9 (q := 27) (by decide) ?_
  refine zIconst d_X11_row_27 (v := -1) ic_m1 (q := 28) rfl ?_
  refine zIret d_X11_row_28 rfl rfl rfl ?_
  exact zPi rfl
theorem sp_X11_row {k : Nat} {b n : Int32} (hd : 2 ≤ d) (hk : k < 6) : zSp g l d 100 m_X11_row [.ref 0, .int (nI k), .int b, .int n] (zU I L fs) (zX (fun x w => (¬ (0 ≤ b ∧ b ≤ 4 ∧ n ≤ 60) ∧ x = -1 ∧ w = zU I L fs) ∨ ((0 ≤ b ∧ b ≤ 4 ∧ n ≤ 60) ∧ n < 0 ∧ x = -14 ∧ w = zU I L fs) ∨ ((0 ≤ b ∧ b ≤ 4 ∧ n ≤ 60) ∧ 0 ≤ n ∧ x = 1 ∧ w = zU (zHoldI I (42 + 2 * k) b n) (zup L (43 + 2 * k) (zZero (L (43 + 2 * k)) 0)) fs))) := by
  have hh := zshf hk
  have e43 : 42 + 2 * k + 1 = 43 + 2 * k := by omega
  refine zSp_of (lv := [(0, .ref 0), (1, .int (nI k)), (2, .int b), (3, .int n)]) k_X11_row rfl (Nat.le_of_ble_eq_true rfl) ?_
  refine zAloadN d_X11_row_0 rfl rfl (q := 1) rfl ?_
  refine zIloadN d_X11_row_1 rfl rfl (q := 2) rfl ?_
  refine zCallVP d_X11_row_2 ml_X11_95 k_X11_shelfAt ki_X11_shelfAt ks_X11_shelfAt (sp_shelf (d := d - 1) (by omega) hk) rfl rfl sh_0 (by decide) rfl (by decide) (Nat.le_of_ble_eq_true rfl) (by decide) (by omega) zns100 (q := 5) rfl ?_
  refine zAstore d_X11_row_5 (by decide) rfl (q := 7) rfl ?_
  refine zAload d_X11_row_7 rfl (q := 9) rfl ?_
  refine zIfnull d_X11_row_9 (q := 12) rfl ?_
  refine zIloadN d_X11_row_12 rfl rfl (q := 13) rfl ?_
  refine zIf_lt d_X11_row_13 (tgt := 27) (q := 16) (by decide) rfl (fun h13 => ?_) (fun h13 => ?_)
  · refine zIconst d_X11_row_27 (v := -1) ic_m1 (q := 28) rfl ?_
    refine zIret d_X11_row_28 rfl rfl rfl ?_
    exact ⟨_, rfl, Or.inl ⟨fun q => by grind, rfl, rfl⟩⟩
  · refine zIloadN d_X11_row_16 rfl rfl (q := 17) rfl ?_
    refine zIconst d_X11_row_17 (v := 4) ic_4 (q := 18) rfl ?_
    refine zIcmp_gt d_X11_row_18 (tgt := 27) (q := 21) (by decide) rfl (fun h18 => ?_) (fun h18 => ?_)
    · refine zIconst d_X11_row_27 (v := -1) ic_m1 (q := 28) rfl ?_
      refine zIret d_X11_row_28 rfl rfl rfl ?_
      exact ⟨_, rfl, Or.inl ⟨fun q => by grind, rfl, rfl⟩⟩
    · refine zIloadN d_X11_row_21 rfl rfl (q := 22) rfl ?_
      refine zBipush d_X11_row_22 (v := 60) bc_60 (q := 24) rfl ?_
      refine zIcmp_le d_X11_row_24 (tgt := 29) (q := 27) (by decide) rfl (fun h24 => ?_) (fun h24 => ?_)
      · refine zIloadN d_X11_row_29 rfl rfl (q := 30) rfl ?_
        refine zIf_ge d_X11_row_30 (tgt := 36) (q := 33) (by decide) rfl (fun h30 => ?_) (fun h30 => ?_)
        · have hn0 : 0 ≤ n := h30
          have hc : 0 ≤ b ∧ b ≤ 4 ∧ n ≤ 60 := And.intro (Int32.not_lt.mp h13) (And.intro (Int32.not_lt.mp h18) h24)
          obtain ⟨j, hj, rfl⟩ := zn1 (x := n) (n := 61) (by omega) hn0 (by show n < 61; grind)
          refine zAload d_X11_row_36 rfl (q := 38) rfl ?_
          refine zIloadN d_X11_row_38 rfl rfl (q := 39) rfl ?_
          refine zIloadN d_X11_row_39 rfl rfl (q := 40) rfl ?_
          refine zCallVV d_X11_row_40 ml_X11_329 k_X8_holdRow ki_X8_holdRow ks_X8_holdRow (sp_X8_holdRow (d := d - 1) (by omega) hh (by omega)) rfl rfl hh.1 (by decide) rfl (Nat.lt_of_succ_lt hh.2.2.1) (Nat.le_of_ble_eq_true rfl) (by decide) (by omega) zns100 (q := 43) rfl (fun w' hw' => ?_)
          subst hw'
          refine zIconst d_X11_row_43 (v := 1) ic_1 (q := 44) rfl ?_
          refine zIret d_X11_row_44 rfl rfl rfl ?_
          exact ⟨_, rfl, Or.inr (Or.inr ⟨hc, hn0, rfl, by rw [e43]⟩)⟩
        · have hn0 : n < 0 := Int32.not_le.mp h30
          have hc : 0 ≤ b ∧ b ≤ 4 ∧ n ≤ 60 := And.intro (Int32.not_lt.mp h13) (And.intro (Int32.not_lt.mp h18) h24)
          refine zBipush d_X11_row_33 (v := -14) bc_m14 (q := 35) rfl ?_
          refine zIret d_X11_row_35 rfl rfl rfl ?_
          exact ⟨_, rfl, Or.inr (Or.inl ⟨hc, hn0, rfl, rfl⟩)⟩
      · refine zIconst d_X11_row_27 (v := -1) ic_m1 (q := 28) rfl ?_
        refine zIret d_X11_row_28 rfl rfl rfl ?_
        exact ⟨_, rfl, Or.inl ⟨fun q => by grind, rfl, rfl⟩⟩
theorem sp_X11_put0 {i n : Int32} {v : Int64} (hd : 2 ≤ d) (hi : ¬ (0 ≤ i ∧ i < 6)) : zPure g l d m_X11_put [.ref 0, .int i, .int n, .long v] I L fs (.int (-1)) := by
  refine zSp_of (lv := [(0, .ref 0), (1, .int i), (2, .int n), (3, .long v)]) k_X11_put rfl (Nat.le_of_ble_eq_true rfl) ?_
  refine zAloadN d_X11_put_0 rfl rfl (q := 1) rfl ?_
  refine zIloadN d_X11_put_1 rfl rfl (q := 2) rfl ?_
  refine zCallVP d_X11_put_2 ml_X11_95 k_X11_shelfAt ki_X11_shelfAt ks_X11_shelfAt (sp_shelf0 (d := d - 1) (by omega) hi) rfl rfl sh_0 (by decide) rfl (by decide) (Nat.le_of_ble_eq_true rfl) (by decide) (by omega) zns100 (q := 5) rfl ?_
  refine zAstore0 d_X11_put_5 (by decide) rfl (q := 7) rfl ?_
  refine zAload0 d_X11_put_7 rfl (q := 9) rfl ?_
  refine zIfnonnull0 d_X11_put_9 (q := 12) rfl ?_
  refine zIconst d_X11_put_12 (v := -1) ic_m1 (q := 13) rfl ?_
  refine zIret d_X11_put_13 rfl rfl rfl ?_
  exact zPi rfl
theorem sp_X11_put {k m : Nat} {n : Int32} {v : Int64} (hd : 3 ≤ d) (hk : k < 6) (hm : I (42 + 2 * k) 2 = nI m) (hm2 : m ≤ 60) : zSp g l d 100 m_X11_put [.ref 0, .int (nI k), .int n, .long v] (zU I L fs) (zX (fun x w =>
    (¬ (0 ≤ I (42 + 2 * k) 1 ∧ I (42 + 2 * k) 1 ≤ 4) ∧ x = (if I (42 + 2 * k) 1 = -1 then -11 else -12) ∧ w = zU I L fs) ∨ ((0 ≤ I (42 + 2 * k) 1 ∧ I (42 + 2 * k) 1 ≤ 4) ∧ ¬ (0 ≤ n ∧ n < nI m) ∧ x = -13 ∧ w = zU I L fs) ∨
    ((0 ≤ I (42 + 2 * k) 1 ∧ I (42 + 2 * k) 1 ≤ 4) ∧ (0 ≤ n ∧ n < nI m) ∧ x = 1 ∧ w = zU I (zup L (43 + 2 * k) (zup (L (43 + 2 * k)) n.toNatClampNeg (zLow (I (42 + 2 * k) 1) v))) fs))) := by
  have hh := zshf hk
  have e43 : 42 + 2 * k + 1 = 43 + 2 * k := by omega
  rcases Decidable.em (0 ≤ n ∧ n < nI m) with hc | hc
  · obtain ⟨j, hj, rfl⟩ := zn1 (x := n) (n := m) (by omega) hc.1 hc.2
    refine zSp_of (lv := [(0, .ref 0), (1, .int (nI k)), (2, .int (nI j)), (3, .long v)]) k_X11_put rfl (Nat.le_of_ble_eq_true rfl) ?_
    refine zAloadN d_X11_put_0 rfl rfl (q := 1) rfl ?_
    refine zIloadN d_X11_put_1 rfl rfl (q := 2) rfl ?_
    refine zCallVP d_X11_put_2 ml_X11_95 k_X11_shelfAt ki_X11_shelfAt ks_X11_shelfAt (sp_shelf (d := d - 1) (by omega) hk) rfl rfl sh_0 (by decide) rfl (by decide) (Nat.le_of_ble_eq_true rfl) (by decide) (by omega) zns100 (q := 5) rfl ?_
    refine zAstore d_X11_put_5 (by decide) rfl (q := 7) rfl ?_
    refine zAload d_X11_put_7 rfl (q := 9) rfl ?_
    refine zIfnonnull d_X11_put_9 (q := 14) (by decide) ?_
    refine zAload d_X11_put_14 rfl (q := 16) rfl ?_
    refine zCallVP d_X11_put_16 ml_X11_332 k_X8_isRow ki_X8_isRow ks_X8_isRow (sp_X8_isRow (d := d - 1) (by omega) hh) rfl rfl hh.1 (by decide) rfl (Nat.lt_of_succ_lt hh.2.2.1) (Nat.le_of_ble_eq_true rfl) (by decide) (by omega) zns100 (q := 19) rfl ?_
    refine zIf_ne d_X11_put_19 (tgt := 28) (q := 22) (by decide) rfl (fun h19 => ?_) (fun h19 => ?_)
    · refine zAload d_X11_put_28 rfl (q := 30) rfl ?_
      refine zIloadN d_X11_put_30 rfl rfl (q := 31) rfl ?_
      refine zCallVP d_X11_put_31 ml_X11_335 k_X8_hasPlace ki_X8_hasPlace ks_X8_hasPlace (sp_X8_hasPlace (d := d - 1) (by omega) hh) rfl rfl hh.1 (by decide) rfl (Nat.lt_of_succ_lt hh.2.2.1) (Nat.le_of_ble_eq_true rfl) (by decide) (by omega) zns100 (q := 34) rfl ?_
      refine zIf_ne d_X11_put_34 (tgt := 40) (q := 37) (by decide) rfl (fun h34 => ?_) (fun h => absurd h (fun q => bi_0.mp q (by rw [hm]; exact hc)))
      refine zAload d_X11_put_40 rfl (q := 42) rfl ?_
      refine zIloadN d_X11_put_42 rfl rfl (q := 43) rfl ?_
      refine zLloadN d_X11_put_43 rfl rfl (q := 44) rfl ?_
      refine zCallVV d_X11_put_44 ml_X11_338 k_X8_write ki_X8_write ks_X8_write (sp_X8_write (d := d - 1) (by omega) hh hj hm hm2) rfl rfl hh.1 (by decide) rfl (Nat.lt_of_succ_lt hh.2.2.1) (Nat.le_of_ble_eq_true rfl) (by decide) (by omega) zns100 (q := 47) rfl (fun w' hw' => ?_)
      subst hw'
      refine zIconst d_X11_put_47 (v := 1) ic_1 (q := 48) rfl ?_
      refine zIret d_X11_put_48 rfl rfl rfl ?_
      exact ⟨_, rfl, Or.inr (Or.inr ⟨bi_n0.mp h19, hc, rfl, by rw [e43, show (nI j).toNatClampNeg = j from zcl_n (by omega)]⟩)⟩
    · refine zAload d_X11_put_22 rfl (q := 24) rfl ?_
      refine zCallVP d_X11_put_24 ml_X11_159 k_X8_refusal ki_X8_refusal ks_X8_refusal (sp_X8_refusal (d := d - 1) (by omega) hh) rfl rfl hh.1 (by decide) rfl (Nat.lt_of_succ_lt hh.2.2.1) (Nat.le_of_ble_eq_true rfl) (by decide) (by omega) zns100 (q := 27) rfl ?_
      refine zIret d_X11_put_27 rfl rfl rfl ?_
      exact ⟨_, rfl, Or.inl ⟨bi_0.mp (by simpa using h19), rfl, rfl⟩⟩
  ·
    refine zSp_of (lv := [(0, .ref 0), (1, .int (nI k)), (2, .int n), (3, .long v)]) k_X11_put rfl (Nat.le_of_ble_eq_true rfl) ?_
    refine zAloadN d_X11_put_0 rfl rfl (q := 1) rfl ?_
    refine zIloadN d_X11_put_1 rfl rfl (q := 2) rfl ?_
    refine zCallVP d_X11_put_2 ml_X11_95 k_X11_shelfAt ki_X11_shelfAt ks_X11_shelfAt (sp_shelf (d := d - 1) (by omega) hk) rfl rfl sh_0 (by decide) rfl (by decide) (Nat.le_of_ble_eq_true rfl) (by decide) (by omega) zns100 (q := 5) rfl ?_
    refine zAstore d_X11_put_5 (by decide) rfl (q := 7) rfl ?_
    refine zAload d_X11_put_7 rfl (q := 9) rfl ?_
    refine zIfnonnull d_X11_put_9 (q := 14) (by decide) ?_
    refine zAload d_X11_put_14 rfl (q := 16) rfl ?_
    refine zCallVP d_X11_put_16 ml_X11_332 k_X8_isRow ki_X8_isRow ks_X8_isRow (sp_X8_isRow (d := d - 1) (by omega) hh) rfl rfl hh.1 (by decide) rfl (Nat.lt_of_succ_lt hh.2.2.1) (Nat.le_of_ble_eq_true rfl) (by decide) (by omega) zns100 (q := 19) rfl ?_
    refine zIf_ne d_X11_put_19 (tgt := 28) (q := 22) (by decide) rfl (fun h19 => ?_) (fun h19 => ?_)
    · refine zAload d_X11_put_28 rfl (q := 30) rfl ?_
      refine zIloadN d_X11_put_30 rfl rfl (q := 31) rfl ?_
      refine zCallVP d_X11_put_31 ml_X11_335 k_X8_hasPlace ki_X8_hasPlace ks_X8_hasPlace (sp_X8_hasPlace (d := d - 1) (by omega) hh) rfl rfl hh.1 (by decide) rfl (Nat.lt_of_succ_lt hh.2.2.1) (Nat.le_of_ble_eq_true rfl) (by decide) (by omega) zns100 (q := 34) rfl ?_
      refine zIf_ne d_X11_put_34 (tgt := 40) (q := 37) (by decide) rfl (fun h => absurd h (fun q => bi_n0.mp q |> fun q => hc (by rw [hm] at q; exact q))) (fun h34 => ?_)
      refine zBipush d_X11_put_37 (v := -13) bc_m13 (q := 39) rfl ?_
      refine zIret d_X11_put_39 rfl rfl rfl ?_
      exact ⟨_, rfl, Or.inr (Or.inl ⟨bi_n0.mp h19, hc, rfl, rfl⟩)⟩
    · refine zAload d_X11_put_22 rfl (q := 24) rfl ?_
      refine zCallVP d_X11_put_24 ml_X11_159 k_X8_refusal ki_X8_refusal ks_X8_refusal (sp_X8_refusal (d := d - 1) (by omega) hh) rfl rfl hh.1 (by decide) rfl (Nat.lt_of_succ_lt hh.2.2.1) (Nat.le_of_ble_eq_true rfl) (by decide) (by omega) zns100 (q := 27) rfl ?_
      refine zIret d_X11_put_27 rfl rfl rfl ?_
      exact ⟨_, rfl, Or.inl ⟨bi_0.mp (by simpa using h19), rfl, rfl⟩⟩
theorem sp_X11_element0 {i n : Int32} (hd : 2 ≤ d) (hi : ¬ (0 ≤ i ∧ i < 6)) : zPure g l d m_X11_element [.ref 0, .int i, .int n] I L fs (.long (-9223372036854775808)) := by
  refine zSp_of (lv := [(0, .ref 0), (1, .int i), (2, .int n)]) k_X11_element rfl (Nat.le_of_ble_eq_true rfl) ?_
  refine zAloadN d_X11_element_0 rfl rfl (q := 1) rfl ?_
  refine zIloadN d_X11_element_1 rfl rfl (q := 2) rfl ?_
  refine zCallVP d_X11_element_2 ml_X11_95 k_X11_shelfAt ki_X11_shelfAt ks_X11_shelfAt (sp_shelf0 (d := d - 1) (by omega) hi) rfl rfl sh_0 (by decide) rfl (by decide) (Nat.le_of_ble_eq_true rfl) (by decide) (by omega) zns100 (q := 5) rfl ?_
  refine zAstoreNN d_X11_element_5 rfl (by decide) rfl (q := 6) rfl ?_
  refine zAloadNN d_X11_element_6 rfl rfl (q := 7) rfl ?_
  refine zIfnull0 d_X11_element_7 (q := 25) (by decide) ?_
  refine zLdc2 d_X11_element_25 co_X11_178 (q := 28) rfl ?_
  refine zLret d_X11_element_28 rfl rfl ?_
  exact ⟨rfl, rfl⟩
theorem sp_X11_element {k m : Nat} {n : Int32} (hd : 2 ≤ d) (hk : k < 6) (hm : I (42 + 2 * k) 2 = nI m) (hm2 : m ≤ 60) : zPure g l d m_X11_element [.ref 0, .int (nI k), .int n] I L fs (.long (if (0 ≤ I (42 + 2 * k) 1 ∧ I (42 + 2 * k) 1 ≤ 4) ∧ (0 ≤ n ∧ n < nI m) then L (43 + 2 * k) n.toNatClampNeg else -9223372036854775808)) := by
  have hh := zshf hk
  have e43 : 42 + 2 * k + 1 = 43 + 2 * k := by omega
  rcases Decidable.em (0 ≤ n ∧ n < nI m) with hc | hc
  · obtain ⟨j, hj, rfl⟩ := zn1 (x := n) (n := m) (by omega) hc.1 hc.2
    refine zSp_of (lv := [(0, .ref 0), (1, .int (nI k)), (2, .int (nI j))]) k_X11_element rfl (Nat.le_of_ble_eq_true rfl) ?_
    refine zAloadN d_X11_element_0 rfl rfl (q := 1) rfl ?_
    refine zIloadN d_X11_element_1 rfl rfl (q := 2) rfl ?_
    refine zCallVP d_X11_element_2 ml_X11_95 k_X11_shelfAt ki_X11_shelfAt ks_X11_shelfAt (sp_shelf (d := d - 1) (by omega) hk) rfl rfl sh_0 (by decide) rfl (by decide) (Nat.le_of_ble_eq_true rfl) (by decide) (by omega) zns100 (q := 5) rfl ?_
    refine zAstoreN d_X11_element_5 rfl (by decide) rfl (q := 6) rfl ?_
    refine zAloadN d_X11_element_6 rfl rfl (q := 7) rfl ?_
    refine zIfnull d_X11_element_7 (q := 10) rfl ?_
    refine zAloadN d_X11_element_10 rfl rfl (q := 11) rfl ?_
    refine zCallVP d_X11_element_11 ml_X11_332 k_X8_isRow ki_X8_isRow ks_X8_isRow (sp_X8_isRow (d := d - 1) (by omega) hh) rfl rfl hh.1 (by decide) rfl (Nat.lt_of_succ_lt hh.2.2.1) (Nat.le_of_ble_eq_true rfl) (by decide) (by omega) zns100 (q := 14) rfl ?_
    refine zIf_eq d_X11_element_14 (tgt := 25) (q := 17) (by decide) rfl (fun h14 => ?_) (fun h14 => ?_)
    · refine zLdc2 d_X11_element_25 co_X11_178 (q := 28) rfl ?_
      refine zLret d_X11_element_28 rfl rfl ?_
      exact ⟨by rw [if_neg (fun q => bi_0.mp h14 q.1)], rfl⟩
    · refine zAloadN d_X11_element_17 rfl rfl (q := 18) rfl ?_
      refine zIloadN d_X11_element_18 rfl rfl (q := 19) rfl ?_
      refine zCallVP d_X11_element_19 ml_X11_335 k_X8_hasPlace ki_X8_hasPlace ks_X8_hasPlace (sp_X8_hasPlace (d := d - 1) (by omega) hh) rfl rfl hh.1 (by decide) rfl (Nat.lt_of_succ_lt hh.2.2.1) (Nat.le_of_ble_eq_true rfl) (by decide) (by omega) zns100 (q := 22) rfl ?_
      refine zIf_ne d_X11_element_22 (tgt := 29) (q := 25) (by decide) rfl (fun h22 => ?_) (fun h => absurd h (fun q => bi_0.mp q (by rw [hm]; exact hc)))
      refine zAloadN d_X11_element_29 rfl rfl (q := 30) rfl ?_
      refine zGetR d_X11_element_30 ff_X11_342 hh.1 (Nat.lt_of_succ_lt hh.2.2.1) (hh.2.2.2 _) (q := 33) rfl ?_
      refine zIloadN d_X11_element_33 rfl rfl (q := 34) rfl ?_
      refine zLald d_X11_element_34 hh.2.1 hh.2.2.1 (j := j) rfl (by omega) (q := 35) rfl ?_
      refine zLret d_X11_element_35 rfl rfl ?_
      exact ⟨by rw [if_pos (And.intro (bi_n0.mp h14) hc), e43, show (nI j).toNatClampNeg = j from zcl_n (by omega)], rfl⟩
  · rw [if_neg (fun q => hc q.2)]
    refine zSp_of (lv := [(0, .ref 0), (1, .int (nI k)), (2, .int n)]) k_X11_element rfl (Nat.le_of_ble_eq_true rfl) ?_
    refine zAloadN d_X11_element_0 rfl rfl (q := 1) rfl ?_
    refine zIloadN d_X11_element_1 rfl rfl (q := 2) rfl ?_
    refine zCallVP d_X11_element_2 ml_X11_95 k_X11_shelfAt ki_X11_shelfAt ks_X11_shelfAt (sp_shelf (d := d - 1) (by omega) hk) rfl rfl sh_0 (by decide) rfl (by decide) (Nat.le_of_ble_eq_true rfl) (by decide) (by omega) zns100 (q := 5) rfl ?_
    refine zAstoreN d_X11_element_5 rfl (by decide) rfl (q := 6) rfl ?_
    refine zAloadN d_X11_element_6 rfl rfl (q := 7) rfl ?_
    refine zIfnull d_X11_element_7 (q := 10) rfl ?_
    refine zAloadN d_X11_element_10 rfl rfl (q := 11) rfl ?_
    refine zCallVP d_X11_element_11 ml_X11_332 k_X8_isRow ki_X8_isRow ks_X8_isRow (sp_X8_isRow (d := d - 1) (by omega) hh) rfl rfl hh.1 (by decide) rfl (Nat.lt_of_succ_lt hh.2.2.1) (Nat.le_of_ble_eq_true rfl) (by decide) (by omega) zns100 (q := 14) rfl ?_
    refine zIf_eq d_X11_element_14 (tgt := 25) (q := 17) (by decide) rfl (fun h14 => ?_) (fun h14 => ?_)
    · refine zLdc2 d_X11_element_25 co_X11_178 (q := 28) rfl ?_
      refine zLret d_X11_element_28 rfl rfl ?_
      exact ⟨rfl, rfl⟩
    · refine zAloadN d_X11_element_17 rfl rfl (q := 18) rfl ?_
      refine zIloadN d_X11_element_18 rfl rfl (q := 19) rfl ?_
      refine zCallVP d_X11_element_19 ml_X11_335 k_X8_hasPlace ki_X8_hasPlace ks_X8_hasPlace (sp_X8_hasPlace (d := d - 1) (by omega) hh) rfl rfl hh.1 (by decide) rfl (Nat.lt_of_succ_lt hh.2.2.1) (Nat.le_of_ble_eq_true rfl) (by decide) (by omega) zns100 (q := 22) rfl ?_
      refine zIf_ne d_X11_element_22 (tgt := 29) (q := 25) (by decide) rfl (fun h => absurd h (fun q => bi_n0.mp q |> fun q => hc (by rw [hm] at q; exact q))) (fun h22 => ?_)
      refine zLdc2 d_X11_element_25 co_X11_178 (q := 28) rfl ?_
      refine zLret d_X11_element_28 rfl rfl ?_
      exact ⟨rfl, rfl⟩
theorem sp_X11_taken0 {i n : Int32} (hd : 2 ≤ d) (hi : ¬ (0 ≤ i ∧ i < 6)) : zPure g l d m_X11_taken [.ref 0, .int i, .int n] I L fs (.int (-1)) := by
  refine zSp_of (lv := [(0, .ref 0), (1, .int i), (2, .int n)]) k_X11_taken rfl (Nat.le_of_ble_eq_true rfl) ?_
  refine zAloadN d_X11_taken_0 rfl rfl (q := 1) rfl ?_
  refine zIloadN d_X11_taken_1 rfl rfl (q := 2) rfl ?_
  refine zCallVP d_X11_taken_2 ml_X11_95 k_X11_shelfAt ki_X11_shelfAt ks_X11_shelfAt (sp_shelf0 (d := d - 1) (by omega) hi) rfl rfl sh_0 (by decide) rfl (by decide) (Nat.le_of_ble_eq_true rfl) (by decide) (by omega) zns100 (q := 5) rfl ?_
  refine zAstoreNN d_X11_taken_5 rfl (by decide) rfl (q := 6) rfl ?_
  refine zAloadNN d_X11_taken_6 rfl rfl (q := 7) rfl ?_
  refine zIfnull0 d_X11_taken_7 (q := 20) (by decide) ?_
  refine zIconst d_X11_taken_20 (v := -1) ic_m1 (q := 21) rfl ?_
  refine zIret d_X11_taken_21 rfl rfl rfl ?_
  exact zPi rfl
theorem sp_X11_taken {k nb : Nat} {n : Int32} (hd : 3 ≤ d) (hk : k < 6) (hb : I 38 2 = nI nb) (h50 : nb ≤ 50) : zPure g l d m_X11_taken [.ref 0, .int (nI k), .int n] I L fs (.int (if ¬ (0 ≤ n ∧ n < 8) then -1 else if ¬ I (42 + 2 * k) 1 = 5 then (if I (42 + 2 * k) 1 = -1 then -11 else -12) else if zUl 8 (zKo I (I (42 + 2 * k) 3)) n = n then zKo I (I (42 + 2 * k) 3) else -12)) := by
  have hh := zshf hk
  refine zSp_of (lv := [(0, .ref 0), (1, .int (nI k)), (2, .int n)]) k_X11_taken rfl (Nat.le_of_ble_eq_true rfl) ?_
  refine zAloadN d_X11_taken_0 rfl rfl (q := 1) rfl ?_
  refine zIloadN d_X11_taken_1 rfl rfl (q := 2) rfl ?_
  refine zCallVP d_X11_taken_2 ml_X11_95 k_X11_shelfAt ki_X11_shelfAt ks_X11_shelfAt (sp_shelf (d := d - 1) (by omega) hk) rfl rfl sh_0 (by decide) rfl (by decide) (Nat.le_of_ble_eq_true rfl) (by decide) (by omega) zns100 (q := 5) rfl ?_
  refine zAstoreN d_X11_taken_5 rfl (by decide) rfl (q := 6) rfl ?_
  refine zAloadN d_X11_taken_6 rfl rfl (q := 7) rfl ?_
  refine zIfnull d_X11_taken_7 (q := 10) rfl ?_
  refine zIloadN d_X11_taken_10 rfl rfl (q := 11) rfl ?_
  refine zIf_lt d_X11_taken_11 (tgt := 20) (q := 14) (by decide) rfl (fun h11 => ?_) (fun h11 => ?_)
  · have hc : ¬ (0 ≤ n ∧ n < 8) := fun q => Int32.not_lt.mpr q.1 h11
    refine zIconst d_X11_taken_20 (v := -1) ic_m1 (q := 21) rfl ?_
    refine zIret d_X11_taken_21 rfl rfl rfl ?_
    exact zPi (by rw [if_pos hc])
  · refine zIloadN d_X11_taken_14 rfl rfl (q := 15) rfl ?_
    refine zBipush d_X11_taken_15 (v := 8) bc_8 (q := 17) rfl ?_
    refine zIcmp_lt d_X11_taken_17 (tgt := 22) (q := 20) (by decide) rfl (fun h17 => ?_) (fun h17 => ?_)
    · have hc : ¬ ¬ (0 ≤ n ∧ n < 8) := fun q => q (And.intro (Int32.not_lt.mp h11) h17)
      refine zAloadN d_X11_taken_22 rfl rfl (q := 23) rfl ?_
      refine zCallVP d_X11_taken_23 ml_X11_358 k_X8_isBody ki_X8_isBody ks_X8_isBody (sp_X8_isBody (d := d - 1) (by omega) hh) rfl rfl hh.1 (by decide) rfl (Nat.lt_of_succ_lt hh.2.2.1) (Nat.le_of_ble_eq_true rfl) (by decide) (by omega) zns100 (q := 26) rfl ?_
      refine zIf_ne d_X11_taken_26 (tgt := 34) (q := 29) (by decide) rfl (fun h26 => ?_) (fun h26 => ?_)
      · have h5 : ¬ ¬ I (42 + 2 * k) 1 = 5 := fun q => q (bi_n0.mp h26)
        refine zAloadN d_X11_taken_34 rfl rfl (q := 35) rfl ?_
        refine zGetR d_X11_taken_35 ff_X11_70 sh_0 (by decide) r_0_8 (q := 38) rfl ?_
        refine zAloadN d_X11_taken_38 rfl rfl (q := 39) rfl ?_
        refine zGetI d_X11_taken_39 ff_X11_361 hh.1 (Nat.lt_of_succ_lt hh.2.2.1) (q := 42) rfl ?_
        refine zCallVP d_X11_taken_42 ml_X11_364 k_X0_kindOf ki_X0_kindOf ks_X0_kindOf (sp_X0_kindOf (d := d - 1) (by omega) hb h50) rfl rfl sh_38 (by decide) rfl (by decide) (Nat.le_of_ble_eq_true rfl) (by decide) (by omega) zns100 (q := 45) rfl ?_
        refine zIstore d_X11_taken_45 (by decide) rfl (q := 47) rfl ?_
        refine zIload d_X11_taken_47 rfl (q := 49) rfl ?_
        refine zIloadN d_X11_taken_49 rfl rfl (q := 50) rfl ?_
        refine zCallSP d_X11_taken_50 ml_X11_367 k_X0_isUnder kt_X0_isUnder (sp_X0_isUnder (d := d - 1) (by omega) ) rfl rfl (Nat.le_of_ble_eq_true rfl) (by decide) (by omega) zns100 (q := 53) rfl ?_
        refine zIf_eq d_X11_taken_53 (tgt := 61) (q := 56) (by decide) rfl (fun h53 => ?_) (fun h53 => ?_)
        · have hu : ¬ zUl 8 (zKo I (I (42 + 2 * k) 3)) n = n := by grind
          refine zBipush d_X11_taken_61 (v := -12) bc_m12 (q := 63) rfl ?_
          refine zIret d_X11_taken_63 rfl rfl rfl ?_
          exact zPi (by rw [if_neg hc, if_neg h5]; first | rw [if_pos hu] | rw [if_neg hu])
        · have hu : zUl 8 (zKo I (I (42 + 2 * k) 3)) n = n := by grind
          refine zIload d_X11_taken_56 rfl (q := 58) rfl ?_
          refine zGoto d_X11_taken_58 (q := 63) (by decide) ?_
          refine zIret d_X11_taken_63 rfl rfl rfl ?_
          exact zPi (by rw [if_neg hc, if_neg h5]; first | rw [if_pos hu] | rw [if_neg hu])
      · have h5 : ¬ I (42 + 2 * k) 1 = 5 := bi_0.mp (by simpa using h26)
        refine zAloadN d_X11_taken_29 rfl rfl (q := 30) rfl ?_
        refine zCallVP d_X11_taken_30 ml_X11_159 k_X8_refusal ki_X8_refusal ks_X8_refusal (sp_X8_refusal (d := d - 1) (by omega) hh) rfl rfl hh.1 (by decide) rfl (Nat.lt_of_succ_lt hh.2.2.1) (Nat.le_of_ble_eq_true rfl) (by decide) (by omega) zns100 (q := 33) rfl ?_
        refine zIret d_X11_taken_33 rfl rfl rfl ?_
        exact zPi (by rw [if_neg hc, if_pos h5])
    · have hc : ¬ (0 ≤ n ∧ n < 8) := fun q => h17 q.2
      refine zIconst d_X11_taken_20 (v := -1) ic_m1 (q := 21) rfl ?_
      refine zIret d_X11_taken_21 rfl rfl rfl ?_
      exact zPi (by rw [if_pos hc])
theorem sp_X11_body (hd : 2 ≤ d) {nb : Nat} (hb : I 38 2 = nI nb) (h50 : nb ≤ 50) {k : Int32} : zSp g l d 100 m_X11_body [.ref 0, .int k] (zU I L fs) (zX (fun x w => (¬ (0 ≤ k ∧ k < 8) ∧ x = -1 ∧ w = zU I L fs) ∨ ((0 ≤ k ∧ k < 8) ∧ nb = 50 ∧ x = -3 ∧ w = zU I L fs) ∨ ((0 ≤ k ∧ k < 8) ∧ nb < 50 ∧ x = nI nb ∧ w = zU (zup (zup I 39 (zup (I 39) nb k)) 38 (zup (I 38) 2 (nI (nb + 1)))) L fs))) := by
  refine zSp_of (lv := [(0, .ref 0), (1, .int k)]) k_X11_body rfl (Nat.le_of_ble_eq_true rfl) ?_
  refine zAloadN d_X11_body_0 rfl rfl (q := 1) rfl ?_
  refine zGetR d_X11_body_1 ff_X11_70 sh_0 (by decide) r_0_8 (q := 4) rfl ?_
  refine zIloadN d_X11_body_4 rfl rfl (q := 5) rfl ?_
  refine zCallVN d_X11_body_5 ml_X11_310 k_X0_add ki_X0_add ks_X0_add (sp_X0_add (d := d - 1) (by omega) hb h50) rfl rfl sh_38 (by decide) rfl (by decide) (Nat.le_of_ble_eq_true rfl) (by decide) (by omega) zns100 (q := 8) rfl (fun x w' hn hw' => ?_)
  refine zIret d_X11_body_8 rfl rfl hn ?_
  exact ⟨_, rfl, hw'⟩
theorem sp_X11_act (hd : 41 ≤ d) {nb : Nat} (hb : I 38 2 = nI nb) (h50 : nb ≤ 50) {b a x v : Int32} {t : List Int32} (ht : t.length < 900)
    (hv : (0 ≤ zKo I b ∧ 0 ≤ a ∧ a < 4) → zDo 12 (zKo I b) (zKo I b) a b x = some (v, t)) (hv0 : ¬ (0 ≤ zKo I b ∧ 0 ≤ a ∧ a < 4) → v = 0 ∧ t = []) :
    zSp g l d 100 m_X11_act [.ref 0, .int b, .int a, .int x] (zU I L fs) (zX (fun y w => y = v ∧ w = zU (zTrI (zup I 38 (zup (I 38) 3 0)) 0 t) L fs)) := by
  refine zSp_of (lv := [(0, .ref 0), (1, .int b), (2, .int a), (3, .int x)]) k_X11_act rfl (Nat.le_of_ble_eq_true rfl) ?_
  refine zAloadN d_X11_act_0 rfl rfl (q := 1) rfl ?_
  refine zGetR d_X11_act_1 ff_X11_70 sh_0 (by decide) r_0_8 (q := 4) rfl ?_
  refine zIloadN d_X11_act_4 rfl rfl (q := 5) rfl ?_
  refine zIloadN d_X11_act_5 rfl rfl (q := 6) rfl ?_
  refine zIloadN d_X11_act_6 rfl rfl (q := 7) rfl ?_
  refine zCallVX d_X11_act_7 ml_X11_311 k_X0_actOf ki_X0_actOf ks_X0_actOf (sp_X0_actOf (d := d - 1) (by omega) hb h50 ht hv hv0) rfl rfl sh_38 (by decide) rfl (by decide) (Nat.le_of_ble_eq_true rfl) (by decide) (by omega) zns100 (q := 10) rfl (fun y w' hw' => ?_)
  obtain ⟨hy, rfl⟩ := hw'
  refine zIret d_X11_act_10 rfl rfl rfl ?_
  exact ⟨_, rfl, hy, rfl⟩
theorem sp_X11_trace (hd : 2 ≤ d) {i : Int32} : zPure g l d m_X11_trace [.ref 0, .int i] I L fs (.int (if 0 ≤ i ∧ i < (if 24 < I 38 3 then 24 else I 38 3) then I 40 i.toNatClampNeg else -1)) := by
  rcases Decidable.em (0 ≤ i ∧ i < (if 24 < I 38 3 then 24 else I 38 3)) with hc | hc
  · rw [if_pos hc]
    obtain ⟨j, hj, rfl⟩ := zn1 (x := i) (n := 24) (by omega) hc.1 (by have := hc.2; show i < 24; split at this <;> grind)
    rw [show (nI j).toNatClampNeg = j from zcl_n (by omega)]
    refine zSp_of (lv := [(0, .ref 0), (1, .int (nI j))]) k_X11_trace rfl (Nat.le_of_ble_eq_true rfl) ?_
    refine zIloadN d_X11_trace_0 rfl rfl (q := 1) rfl ?_
    refine zIf_lt d_X11_trace_1 (tgt := 27) (q := 4) (by decide) rfl (fun h => absurd h (nI_pos (by omega))) (fun h1 => ?_)
    refine zIloadN d_X11_trace_4 rfl rfl (q := 5) rfl ?_
    refine zAloadN d_X11_trace_5 rfl rfl (q := 6) rfl ?_
    refine zGetR d_X11_trace_6 ff_X11_70 sh_0 (by decide) r_0_8 (q := 9) rfl ?_
    refine zCallVP d_X11_trace_9 ml_X11_314 k_X0_traced ki_X0_traced ks_X0_traced (sp_X0_traced (d := d - 1) (by omega) ) rfl rfl sh_38 (by decide) rfl (by decide) (Nat.le_of_ble_eq_true rfl) (by decide) (by omega) zns100 (q := 12) rfl ?_
    refine zIcmp_ge d_X11_trace_12 (tgt := 27) (q := 15) (by decide) rfl (fun h => absurd h (fun q => Int32.not_lt.mpr q hc.2)) (fun h12 => ?_)
    refine zAloadN d_X11_trace_15 rfl rfl (q := 16) rfl ?_
    refine zGetR d_X11_trace_16 ff_X11_70 sh_0 (by decide) r_0_8 (q := 19) rfl ?_
    refine zGetR d_X11_trace_19 ff_X11_317 sh_38 (by decide) r_38_1 (q := 22) rfl ?_
    refine zIloadN d_X11_trace_22 rfl rfl (q := 23) rfl ?_
    refine zIald d_X11_trace_23 sh_40 (by decide) rfl hj (q := 24) rfl ?_
    refine zGoto d_X11_trace_24 (q := 28) (by decide) ?_
    refine zIret d_X11_trace_28 rfl rfl rfl ?_
    exact zPi rfl
  · rw [if_neg hc]
    refine zSp_of (lv := [(0, .ref 0), (1, .int i)]) k_X11_trace rfl (Nat.le_of_ble_eq_true rfl) ?_
    refine zIloadN d_X11_trace_0 rfl rfl (q := 1) rfl ?_
    refine zIf_lt d_X11_trace_1 (tgt := 27) (q := 4) (by decide) rfl (fun h1 => ?_) (fun h1 => ?_)
    · refine zIconst d_X11_trace_27 (v := -1) ic_m1 (q := 28) rfl ?_
      refine zIret d_X11_trace_28 rfl rfl rfl ?_
      exact zPi rfl
    · refine zIloadN d_X11_trace_4 rfl rfl (q := 5) rfl ?_
      refine zAloadN d_X11_trace_5 rfl rfl (q := 6) rfl ?_
      refine zGetR d_X11_trace_6 ff_X11_70 sh_0 (by decide) r_0_8 (q := 9) rfl ?_
      refine zCallVP d_X11_trace_9 ml_X11_314 k_X0_traced ki_X0_traced ks_X0_traced (sp_X0_traced (d := d - 1) (by omega) ) rfl rfl sh_38 (by decide) rfl (by decide) (Nat.le_of_ble_eq_true rfl) (by decide) (by omega) zns100 (q := 12) rfl ?_
      refine zIcmp_ge d_X11_trace_12 (tgt := 27) (q := 15) (by decide) rfl (fun h12 => ?_) (fun h => absurd (Int32.not_lt.mp (fun q => hc (And.intro (Int32.not_lt.mp h1) q))) h)
      refine zIconst d_X11_trace_27 (v := -1) ic_m1 (q := 28) rfl ?_
      refine zIret d_X11_trace_28 rfl rfl rfl ?_
      exact zPi rfl
end S32

