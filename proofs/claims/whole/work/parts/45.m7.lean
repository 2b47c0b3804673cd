theorem d_X12_act_0 : decode (zmc m_X12_act) 0 = .ok (.aload_n 0, 1) := by decide +kernel
theorem d_X12_act_1 : decode (zmc m_X12_act) 1 = .ok (.iconst 0, 1) := by decide +kernel
theorem d_X12_act_2 : decode (zmc m_X12_act) 2 = .ok (.putfield 379, 3) := by decide +kernel
theorem d_X12_act_5 : decode (zmc m_X12_act) 5 = .ok (.aload_n 0, 1) := by decide +kernel
theorem d_X12_act_6 : decode (zmc m_X12_act) 6 = .ok (.iload_n 1, 1) := by decide +kernel
theorem d_X12_act_7 : decode (zmc m_X12_act) 7 = .ok (.invokevirtual 418, 3) := by decide +kernel
theorem d_X12_act_10 : decode (zmc m_X12_act) 10 = .ok (.ifCond .eq 12, 3) := by decide +kernel
theorem d_X12_act_13 : decode (zmc m_X12_act) 13 = .ok (.iload_n 2, 1) := by decide +kernel
theorem d_X12_act_14 : decode (zmc m_X12_act) 14 = .ok (.iconst 0, 1) := by decide +kernel
theorem d_X12_act_15 : decode (zmc m_X12_act) 15 = .ok (.iconst 3, 1) := by decide +kernel
theorem d_X12_act_16 : decode (zmc m_X12_act) 16 = .ok (.invokestatic 127, 3) := by decide +kernel
theorem d_X12_act_19 : decode (zmc m_X12_act) 19 = .ok (.ifCond .ne 5, 3) := by decide +kernel
theorem d_X12_act_22 : decode (zmc m_X12_act) 22 = .ok (.iconst 0, 1) := by decide +kernel
theorem d_X12_act_23 : decode (zmc m_X12_act) 23 = .ok (.ireturn, 1) := by decide +kernel
theorem d_X12_act_24 : decode (zmc m_X12_act) 24 = .ok (.iload_n 2, 1) := by decide +kernel
theorem d_X12_act_25 : decode (zmc m_X12_act) 25 = .ok (.ifCond .ne 12, 3) := by decide +kernel
theorem d_X12_act_28 : decode (zmc m_X12_act) 28 = .ok (.aload_n 0, 1) := by decide +kernel
theorem d_X12_act_29 : decode (zmc m_X12_act) 29 = .ok (.iload_n 1, 1) := by decide +kernel
theorem d_X12_act_30 : decode (zmc m_X12_act) 30 = .ok (.iload_n 3, 1) := by decide +kernel
theorem d_X12_act_31 : decode (zmc m_X12_act) 31 = .ok (.invokevirtual 394, 3) := by decide +kernel
theorem d_X12_act_34 : decode (zmc m_X12_act) 34 = .ok (.goto 37, 3) := by decide +kernel
theorem d_X12_act_37 : decode (zmc m_X12_act) 37 = .ok (.iload_n 2, 1) := by decide +kernel
theorem d_X12_act_38 : decode (zmc m_X12_act) 38 = .ok (.iconst 1, 1) := by decide +kernel
theorem d_X12_act_39 : decode (zmc m_X12_act) 39 = .ok (.if_icmp .ne 12, 3) := by decide +kernel
theorem d_X12_act_42 : decode (zmc m_X12_act) 42 = .ok (.aload_n 0, 1) := by decide +kernel
theorem d_X12_act_43 : decode (zmc m_X12_act) 43 = .ok (.iload_n 1, 1) := by decide +kernel
theorem d_X12_act_44 : decode (zmc m_X12_act) 44 = .ok (.iload_n 3, 1) := by decide +kernel
theorem d_X12_act_45 : decode (zmc m_X12_act) 45 = .ok (.invokevirtual 412, 3) := by decide +kernel
theorem d_X12_act_48 : decode (zmc m_X12_act) 48 = .ok (.goto 23, 3) := by decide +kernel
theorem d_X12_act_51 : decode (zmc m_X12_act) 51 = .ok (.iload_n 2, 1) := by decide +kernel
theorem d_X12_act_52 : decode (zmc m_X12_act) 52 = .ok (.iconst 2, 1) := by decide +kernel
theorem d_X12_act_53 : decode (zmc m_X12_act) 53 = .ok (.if_icmp .ne 12, 3) := by decide +kernel
theorem d_X12_act_56 : decode (zmc m_X12_act) 56 = .ok (.aload_n 0, 1) := by decide +kernel
theorem d_X12_act_57 : decode (zmc m_X12_act) 57 = .ok (.iload_n 1, 1) := by decide +kernel
theorem d_X12_act_58 : decode (zmc m_X12_act) 58 = .ok (.iload_n 3, 1) := by decide +kernel
theorem d_X12_act_59 : decode (zmc m_X12_act) 59 = .ok (.invokevirtual 403, 3) := by decide +kernel
theorem d_X12_act_62 : decode (zmc m_X12_act) 62 = .ok (.goto 9, 3) := by decide +kernel
theorem d_X12_act_65 : decode (zmc m_X12_act) 65 = .ok (.aload_n 0, 1) := by decide +kernel
theorem d_X12_act_66 : decode (zmc m_X12_act) 66 = .ok (.iload_n 1, 1) := by decide +kernel
theorem d_X12_act_67 : decode (zmc m_X12_act) 67 = .ok (.iload_n 3, 1) := by decide +kernel
theorem d_X12_act_68 : decode (zmc m_X12_act) 68 = .ok (.invokevirtual 421, 3) := by decide +kernel
theorem d_X12_act_71 : decode (zmc m_X12_act) 71 = .ok (.ireturn, 1) := by decide +kernel
theorem d_X12_body_0 : decode (zmc m_X12_body) 0 = .ok (.iload_n 1, 1) := by decide +kernel
theorem d_X12_body_1 : decode (zmc m_X12_body) 1 = .ok (.iconst 0, 1) := by decide +kernel
theorem d_X12_body_2 : decode (zmc m_X12_body) 2 = .ok (.bipush 7, 2) := by decide +kernel
theorem d_X12_body_4 : decode (zmc m_X12_body) 4 = .ok (.invokestatic 127, 3) := by decide +kernel
theorem d_X12_body_7 : decode (zmc m_X12_body) 7 = .ok (.ifCond .ne 5, 3) := by decide +kernel
theorem d_X12_body_10 : decode (zmc m_X12_body) 10 = .ok (.iconst (-1), 1) := by decide +kernel
theorem d_X12_body_11 : decode (zmc m_X12_body) 11 = .ok (.ireturn, 1) := by decide +kernel
theorem d_X12_body_12 : decode (zmc m_X12_body) 12 = .ok (.aload_n 0, 1) := by decide +kernel
theorem d_X12_body_13 : decode (zmc m_X12_body) 13 = .ok (.getfield 376, 3) := by decide +kernel
theorem d_X12_body_16 : decode (zmc m_X12_body) 16 = .ok (.bipush 50, 2) := by decide +kernel
theorem d_X12_body_18 : decode (zmc m_X12_body) 18 = .ok (.if_icmp .ne 6, 3) := by decide +kernel
theorem d_X12_body_21 : decode (zmc m_X12_body) 21 = .ok (.bipush (-3), 2) := by decide +kernel
theorem d_X12_body_23 : decode (zmc m_X12_body) 23 = .ok (.ireturn, 1) := by decide +kernel
theorem d_X12_body_24 : decode (zmc m_X12_body) 24 = .ok (.aload_n 0, 1) := by decide +kernel
theorem d_X12_body_25 : decode (zmc m_X12_body) 25 = .ok (.getfield 101, 3) := by decide +kernel
theorem d_X12_body_28 : decode (zmc m_X12_body) 28 = .ok (.aload_n 0, 1) := by decide +kernel
theorem d_X12_body_29 : decode (zmc m_X12_body) 29 = .ok (.getfield 376, 3) := by decide +kernel
theorem d_X12_body_32 : decode (zmc m_X12_body) 32 = .ok (.iload_n 1, 1) := by decide +kernel
theorem d_X12_body_33 : decode (zmc m_X12_body) 33 = .ok (.iastore, 1) := by decide +kernel
theorem d_X12_body_34 : decode (zmc m_X12_body) 34 = .ok (.aload_n 0, 1) := by decide +kernel
theorem d_X12_body_35 : decode (zmc m_X12_body) 35 = .ok (.dup, 1) := by decide +kernel
theorem d_X12_body_36 : decode (zmc m_X12_body) 36 = .ok (.getfield 376, 3) := by decide +kernel
theorem d_X12_body_39 : decode (zmc m_X12_body) 39 = .ok (.iconst 1, 1) := by decide +kernel
theorem d_X12_body_40 : decode (zmc m_X12_body) 40 = .ok (.iadd, 1) := by decide +kernel
theorem d_X12_body_41 : decode (zmc m_X12_body) 41 = .ok (.putfield 376, 3) := by decide +kernel
theorem d_X12_body_44 : decode (zmc m_X12_body) 44 = .ok (.aload_n 0, 1) := by decide +kernel
theorem d_X12_body_45 : decode (zmc m_X12_body) 45 = .ok (.getfield 376, 3) := by decide +kernel
theorem d_X12_body_48 : decode (zmc m_X12_body) 48 = .ok (.iconst 1, 1) := by decide +kernel
theorem d_X12_body_49 : decode (zmc m_X12_body) 49 = .ok (.isub, 1) := by decide +kernel
theorem d_X12_body_50 : decode (zmc m_X12_body) 50 = .ok (.ireturn, 1) := by decide +kernel
theorem d_X12_feed_0 : decode (zmc m_X12_feed) 0 = .ok (.iload_n 1, 1) := by decide +kernel
theorem d_X12_feed_1 : decode (zmc m_X12_feed) 1 = .ok (.iconst 0, 1) := by decide +kernel
theorem d_X12_feed_2 : decode (zmc m_X12_feed) 2 = .ok (.sipush 255, 3) := by decide +kernel
theorem d_X12_feed_5 : decode (zmc m_X12_feed) 5 = .ok (.invokestatic 127, 3) := by decide +kernel
theorem d_X12_feed_8 : decode (zmc m_X12_feed) 8 = .ok (.ifCond .ne 5, 3) := by decide +kernel
theorem d_X12_feed_11 : decode (zmc m_X12_feed) 11 = .ok (.iconst (-1), 1) := by decide +kernel
theorem d_X12_feed_12 : decode (zmc m_X12_feed) 12 = .ok (.ireturn, 1) := by decide +kernel
theorem d_X12_feed_13 : decode (zmc m_X12_feed) 13 = .ok (.aload_n 0, 1) := by decide +kernel
theorem d_X12_feed_14 : decode (zmc m_X12_feed) 14 = .ok (.getfield 188, 3) := by decide +kernel
theorem d_X12_feed_17 : decode (zmc m_X12_feed) 17 = .ok (.bipush 120, 2) := by decide +kernel
theorem d_X12_feed_19 : decode (zmc m_X12_feed) 19 = .ok (.if_icmp .ne 6, 3) := by decide +kernel
theorem d_X12_feed_22 : decode (zmc m_X12_feed) 22 = .ok (.bipush (-3), 2) := by decide +kernel
theorem d_X12_feed_24 : decode (zmc m_X12_feed) 24 = .ok (.ireturn, 1) := by decide +kernel
theorem d_X12_feed_25 : decode (zmc m_X12_feed) 25 = .ok (.aload_n 0, 1) := by decide +kernel
theorem d_X12_feed_26 : decode (zmc m_X12_feed) 26 = .ok (.getfield 54, 3) := by decide +kernel
theorem d_X12_feed_29 : decode (zmc m_X12_feed) 29 = .ok (.aload_n 0, 1) := by decide +kernel
theorem d_X12_feed_30 : decode (zmc m_X12_feed) 30 = .ok (.getfield 188, 3) := by decide +kernel
theorem d_X12_feed_33 : decode (zmc m_X12_feed) 33 = .ok (.iload_n 1, 1) := by decide +kernel
theorem d_X12_feed_34 : decode (zmc m_X12_feed) 34 = .ok (.i2b, 1) := by decide +kernel
theorem d_X12_feed_35 : decode (zmc m_X12_feed) 35 = .ok (.bastore, 1) := by decide +kernel
theorem d_X12_feed_36 : decode (zmc m_X12_feed) 36 = .ok (.aload_n 0, 1) := by decide +kernel
theorem d_X12_feed_37 : decode (zmc m_X12_feed) 37 = .ok (.dup, 1) := by decide +kernel
theorem d_X12_feed_38 : decode (zmc m_X12_feed) 38 = .ok (.getfield 188, 3) := by decide +kernel
theorem d_X12_feed_41 : decode (zmc m_X12_feed) 41 = .ok (.iconst 1, 1) := by decide +kernel
theorem d_X12_feed_42 : decode (zmc m_X12_feed) 42 = .ok (.iadd, 1) := by decide +kernel
theorem d_X12_feed_43 : decode (zmc m_X12_feed) 43 = .ok (.putfield 188, 3) := by decide +kernel
theorem d_X12_feed_46 : decode (zmc m_X12_feed) 46 = .ok (.aload_n 0, 1) := by decide +kernel
theorem d_X12_feed_47 : decode (zmc m_X12_feed) 47 = .ok (.getfield 188, 3) := by decide +kernel
theorem d_X12_feed_50 : decode (zmc m_X12_feed) 50 = .ok (.ireturn, 1) := by decide +kernel
theorem d_X12_isBody_0 : decode (zmc m_X12_isBody) 0 = .ok (.iload_n 1, 1) := by decide +kernel
theorem d_X12_isBody_1 : decode (zmc m_X12_isBody) 1 = .ok (.iconst 0, 1) := by decide +kernel
theorem d_X12_isBody_2 : decode (zmc m_X12_isBody) 2 = .ok (.aload_n 0, 1) := by decide +kernel
theorem d_X12_isBody_3 : decode (zmc m_X12_isBody) 3 = .ok (.getfield 376, 3) := by decide +kernel
theorem d_X12_isBody_6 : decode (zmc m_X12_isBody) 6 = .ok (.iconst 1, 1) := by decide +kernel
theorem d_X12_isBody_7 : decode (zmc m_X12_isBody) 7 = .ok (.isub, 1) := by decide +kernel
theorem d_X12_isBody_8 : decode (zmc m_X12_isBody) 8 = .ok (.invokestatic 127, 3) := by decide +kernel
theorem d_X12_isBody_11 : decode (zmc m_X12_isBody) 11 = .ok (.ireturn, 1) := by decide +kernel
theorem d_X12_trace_0 : decode (zmc m_X12_trace) 0 = .ok (.iload_n 1, 1) := by decide +kernel
theorem d_X12_trace_1 : decode (zmc m_X12_trace) 1 = .ok (.ifCond .lt 26, 3) := by decide +kernel
theorem d_X12_trace_4 : decode (zmc m_X12_trace) 4 = .ok (.iload_n 1, 1) := by decide +kernel
theorem d_X12_trace_5 : decode (zmc m_X12_trace) 5 = .ok (.aload_n 0, 1) := by decide +kernel
theorem d_X12_trace_6 : decode (zmc m_X12_trace) 6 = .ok (.getfield 379, 3) := by decide +kernel
theorem d_X12_trace_9 : decode (zmc m_X12_trace) 9 = .ok (.if_icmp .ge 18, 3) := by decide +kernel
theorem d_X12_trace_12 : decode (zmc m_X12_trace) 12 = .ok (.iload_n 1, 1) := by decide +kernel
theorem d_X12_trace_13 : decode (zmc m_X12_trace) 13 = .ok (.bipush 24, 2) := by decide +kernel
theorem d_X12_trace_15 : decode (zmc m_X12_trace) 15 = .ok (.if_icmp .ge 12, 3) := by decide +kernel
theorem d_X12_trace_18 : decode (zmc m_X12_trace) 18 = .ok (.aload_n 0, 1) := by decide +kernel
theorem d_X12_trace_19 : decode (zmc m_X12_trace) 19 = .ok (.getfield 104, 3) := by decide +kernel
theorem d_X12_trace_22 : decode (zmc m_X12_trace) 22 = .ok (.iload_n 1, 1) := by decide +kernel
theorem d_X12_trace_23 : decode (zmc m_X12_trace) 23 = .ok (.iaload, 1) := by decide +kernel
theorem d_X12_trace_24 : decode (zmc m_X12_trace) 24 = .ok (.goto 4, 3) := by decide +kernel
theorem d_X12_trace_27 : decode (zmc m_X12_trace) 27 = .ok (.iconst (-1), 1) := by decide +kernel
theorem d_X12_trace_28 : decode (zmc m_X12_trace) 28 = .ok (.ireturn, 1) := by decide +kernel
/-! THE REFERENCE: an act, the tape; a part of what is held is put anew -/
theorem zMd_s {I J V V' : Nat → Nat → Int32} {L K : Nat → Nat → Int64} {pg : Option (List zLine)} (h : ∀ a, a ≠ 64 → (a < 65 ∨ 74 < a) → a ≠ 92 → J a = I a) (h64 : ∀ k, k ≠ 1 → k ≠ 8 → k ≠ 11 → J 64 k = I 64 k) (v : ∀ a, 15 < a → V' a = V a) (hS : zMs J V') (hM : zMd I L V K pg) : zMd J L V' K pg :=
  ⟨hS, zMt_ex (h64 _ (by decide) (by decide) (by decide)) (h _ (by decide) (by decide) (by decide)) ⟨v _ (by decide), v _ (by decide)⟩ hM.2.1,
   zMc_ex ⟨h64 _ (by decide) (by decide) (by decide), h64 _ (by decide) (by decide) (by decide)⟩ (fun a ha => h a (by omega) (by omega) (by omega)) (fun a ha => v a (by omega)) hM.2.2.1,
   zMi_ex (fun k hk => h64 k (by omega) (by omega) (by omega)) (h _ (by decide) (by decide) (by decide)) ⟨v _ (by decide), v _ (by decide)⟩ hM.2.2.2.1,
   zMa_ex ⟨h64 _ (by decide) (by decide) (by decide), h64 _ (by decide) (by decide) (by decide)⟩ ⟨h _ (by decide) (by decide) (by decide), h _ (by decide) (by decide) (by decide)⟩ ⟨v _ (by decide), v _ (by decide), v _ (by decide)⟩ hM.2.2.2.2.1,
   zMh_ex ⟨h _ (by decide) (by decide) (by decide), h _ (by decide) (by decide) (by decide)⟩ (fun a ha => v a (by omega)) hM.2.2.2.2.2.1,
   zMl_ex (h64 _ (by decide) (by decide) (by decide)) (fun a ha => h a (by omega) (by omega) (by omega)) hM.2.2.2.2.2.2⟩
theorem zMd_t {I J V V' : Nat → Nat → Int32} {L K : Nat → Nat → Int64} {pg : Option (List zLine)} (h : ∀ a, a ≠ 64 → a ≠ 79 → J a = I a) (h64 : ∀ k, k ≠ 21 → J 64 k = I 64 k) (v : ∀ a, a ≠ 29 → a ≠ 30 → V' a = V a) (hS : zMt J V') (hM : zMd I L V K pg) : zMd J L V' K pg :=
  ⟨zMs_ex ⟨h64 _ (by decide), h64 _ (by decide), h64 _ (by decide)⟩ (fun a ha => h a (by omega) (by omega)) (fun a ha => v a (by omega) (by omega)) hM.1, hS,
   zMc_ex ⟨h64 _ (by decide), h64 _ (by decide)⟩ (fun a ha => h a (by omega) (by omega)) (fun a ha => v a (by omega) (by omega)) hM.2.2.1,
   zMi_ex (fun k hk => h64 k (by omega)) (h _ (by decide) (by decide)) ⟨v _ (by decide) (by decide), v _ (by decide) (by decide)⟩ hM.2.2.2.1,
   zMa_ex ⟨h64 _ (by decide), h64 _ (by decide)⟩ ⟨h _ (by decide) (by decide), h _ (by decide) (by decide)⟩ ⟨v _ (by decide) (by decide), v _ (by decide) (by decide), v _ (by decide) (by decide)⟩ hM.2.2.2.2.1,
   zMh_ex ⟨h _ (by decide) (by decide), h _ (by decide) (by decide)⟩ (fun a ha => v a (by omega) (by omega)) hM.2.2.2.2.2.1,
   zMl_ex (h64 _ (by decide)) (fun a ha => h a (by omega) (by omega)) hM.2.2.2.2.2.2⟩
theorem zMd_i {I J V V' : Nat → Nat → Int32} {L K : Nat → Nat → Int64} {pg : Option (List zLine)} (h : ∀ a, a ≠ 64 → a ≠ 93 → J a = I a) (h64 : ∀ k, (k < 42 ∨ 47 < k) → J 64 k = I 64 k) (v : ∀ a, a ≠ 36 → a ≠ 37 → V' a = V a) (hS : zMi J V') (hM : zMd I L V K pg) : zMd J L V' K pg :=
  ⟨zMs_ex ⟨h64 _ (by decide), h64 _ (by decide), h64 _ (by decide)⟩ (fun a ha => h a (by omega) (by omega)) (fun a ha => v a (by omega) (by omega)) hM.1,
   zMt_ex (h64 _ (by decide)) (h _ (by decide) (by decide)) ⟨v _ (by decide) (by decide), v _ (by decide) (by decide)⟩ hM.2.1,
   zMc_ex ⟨h64 _ (by decide), h64 _ (by decide)⟩ (fun a ha => h a (by omega) (by omega)) (fun a ha => v a (by omega) (by omega)) hM.2.2.1, hS,
   zMa_ex ⟨h64 _ (by decide), h64 _ (by decide)⟩ ⟨h _ (by decide) (by decide), h _ (by decide) (by decide)⟩ ⟨v _ (by decide) (by decide), v _ (by decide) (by decide), v _ (by decide) (by decide)⟩ hM.2.2.2.2.1,
   zMh_ex ⟨h _ (by decide) (by decide), h _ (by decide) (by decide)⟩ (fun a ha => v a (by omega) (by omega)) hM.2.2.2.2.2.1,
   zMl_ex (h64 _ (by decide)) (fun a ha => h a (by omega) (by omega)) hM.2.2.2.2.2.2⟩
theorem zMd_a {I J V V' : Nat → Nat → Int32} {L K : Nat → Nat → Int64} {pg : Option (List zLine)} (h : ∀ a, a ≠ 64 → a ≠ 94 → a ≠ 95 → J a = I a) (h64 : ∀ k, k ≠ 49 → k ≠ 51 → J 64 k = I 64 k) (v : ∀ a, a < 38 ∨ 40 < a → V' a = V a) (hS : zMa J V') (hM : zMd I L V K pg) : zMd J L V' K pg :=
  ⟨zMs_ex ⟨h64 _ (by decide) (by decide), h64 _ (by decide) (by decide), h64 _ (by decide) (by decide)⟩ (fun a ha => h a (by omega) (by omega) (by omega)) (fun a ha => v a (by omega)) hM.1,
   zMt_ex (h64 _ (by decide) (by decide)) (h _ (by decide) (by decide) (by decide)) ⟨v _ (by decide), v _ (by decide)⟩ hM.2.1,
   zMc_ex ⟨h64 _ (by decide) (by decide), h64 _ (by decide) (by decide)⟩ (fun a ha => h a (by omega) (by omega) (by omega)) (fun a ha => v a (by omega)) hM.2.2.1,
   zMi_ex (fun k hk => h64 k (by omega) (by omega)) (h _ (by decide) (by decide) (by decide)) ⟨v _ (by decide), v _ (by decide)⟩ hM.2.2.2.1, hS,
   zMh_ex ⟨h _ (by decide) (by decide) (by decide), h _ (by decide) (by decide) (by decide)⟩ (fun a ha => v a (by omega)) hM.2.2.2.2.2.1,
   zMl_ex (h64 _ (by decide) (by decide)) (fun a ha => h a (by omega) (by omega) (by omega)) hM.2.2.2.2.2.2⟩
theorem zMd_h {I J V V' : Nat → Nat → Int32} {L L' K K' : Nat → Nat → Int64} {pg : Option (List zLine)} (h : ∀ a, a ≠ 96 → a ≠ 97 → J a = I a) (v : ∀ a, a < 42 → V' a = V a) (hS : zMh J V' L' K') (hM : zMd I L V K pg) : zMd J L' V' K' pg :=
  ⟨zMs_ex ⟨by rw [h 64 (by decide) (by decide)], by rw [h 64 (by decide) (by decide)], by rw [h 64 (by decide) (by decide)]⟩ (fun a ha => h a (by omega) (by omega)) (fun a ha => v a (by omega)) hM.1,
   zMt_ex (by rw [h 64 (by decide) (by decide)]) (h _ (by decide) (by decide)) ⟨v _ (by decide), v _ (by decide)⟩ hM.2.1,
   zMc_ex ⟨by rw [h 64 (by decide) (by decide)], by rw [h 64 (by decide) (by decide)]⟩ (fun a ha => h a (by omega) (by omega)) (fun a ha => v a (by omega)) hM.2.2.1,
   zMi_ex (fun k hk => by rw [h 64 (by decide) (by decide)]) (h _ (by decide) (by decide)) ⟨v _ (by decide), v _ (by decide)⟩ hM.2.2.2.1,
   zMa_ex ⟨by rw [h 64 (by decide) (by decide)], by rw [h 64 (by decide) (by decide)]⟩ ⟨h _ (by decide) (by decide), h _ (by decide) (by decide)⟩ ⟨v _ (by decide), v _ (by decide), v _ (by decide)⟩ hM.2.2.2.2.1, hS,
   zMl_ex (by rw [h 64 (by decide) (by decide)]) (fun a ha => h a (by omega) (by omega)) hM.2.2.2.2.2.2⟩
set_option maxRecDepth 20000 in
theorem yAct_0 {k : Nat} (hk : k < 8) {n x : Int32} : zDo 12 (nI k) (nI k) 0 n x = some (ySt (nI k) n x) := by
  match k, hk with
  | 0, _ => rfl
  | 1, _ => rfl
  | 2, _ => rfl
  | 3, _ => rfl
  | 4, _ => rfl
  | 5, _ => rfl
  | 6, _ => rfl
  | 7, _ => rfl
set_option maxRecDepth 20000 in
theorem yAct_1 {k : Nat} (hk : k < 8) {n x : Int32} : zDo 12 (nI k) (nI k) 1 n x = some (yDr (nI k) n x) := by
  match k, hk with
  | 0, _ => rfl
  | 1, _ => rfl
  | 2, _ => rfl
  | 3, _ => rfl
  | 4, _ => rfl
  | 5, _ => rfl
  | 6, _ => rfl
  | 7, _ => rfl
set_option maxRecDepth 20000 in
theorem yAct_2 {k : Nat} (hk : k < 8) {n x : Int32} : zDo 12 (nI k) (nI k) 2 n x = some (yLi (nI k) n x) := by
  match k, hk with
  | 0, _ => rfl
  | 1, _ => rfl
  | 2, _ => rfl
  | 3, _ => rfl
  | 4, _ => rfl
  | 5, _ => rfl
  | 6, _ => rfl
  | 7, _ => rfl
set_option maxRecDepth 20000 in
theorem yAct_3 {k : Nat} (hk : k < 8) {n x : Int32} : zDo 12 (nI k) (nI k) 3 n x = some (yTe (nI k) n x) := by
  match k, hk with
  | 0, _ => rfl
  | 1, _ => rfl
  | 2, _ => rfl
  | 3, _ => rfl
  | 4, _ => rfl
  | 5, _ => rfl
  | 6, _ => rfl
  | 7, _ => rfl
/-- what an act answers, and its trace -/
def yAct (K a n x : Int32) : yAn := if a = 0 then ySt K n x else if a = 1 then yDr K n x else if a = 2 then yLi K n x else yTe K n x
theorem yAct_at {k j : Nat} (hk : k < 8) (hj : j < 4) {n x : Int32} : zDo 12 (nI k) (nI k) (nI j) n x = some (yAct (nI k) (nI j) n x) := by
  match j, hj with
  | 0, _ => exact yAct_0 hk
  | 1, _ => exact yAct_1 hk
  | 2, _ => exact yAct_2 hk
  | 3, _ => exact yAct_3 hk
theorem yAct_len {K a n x : Int32} : (yAct K a n x).2.length < 900 := by
  have h1 : ∀ x, (ySt K n x).2.length ≤ 3 := by intro x; unfold ySt yGS yPS; split <;> (try split) <;> (try split) <;> simp
  have h2 : ∀ x, (yLi K n x).2.length ≤ 6 := by intro x; have := h1 2; unfold yLi yFL yPL; split <;> (try split) <;> simp <;> omega
  have h3 : ∀ x, (yPD K n x).2.length ≤ 4 := by intro x; have := h1 x; unfold yPD; simp; omega
  have h4 : ∀ x, (yHD K n x).2.length ≤ 5 := by intro x; have := h3 x; unfold yHD; simp; omega
  have h5 : ∀ x, (yDr K n x).2.length ≤ 12 := by intro x; have := h3 x; have := h4 x; have := h4 (x + 1); have := h2 2; unfold yDr; split <;> (try split) <;> (try split) <;> simp <;> omega
  have h6 : ∀ x, (yPT K n x).2.length ≤ 20 := by intro x; have := h5 x; have := h2 1; unfold yPT; simp; omega
  have h7 : ∀ x, (yTe K n x).2.length ≤ 30 := by intro x; have := h6 x; unfold yTe; split <;> (try split) <;> simp <;> omega
  have e1 := h1 x
  have e2 := h2 x
  have e3 := h5 x
  have e4 := h7 x
  unfold yAct
  split <;> (try split) <;> (try split) <;> omega
section S45
variable {g : zG} {l : Launch} {d : Nat} {I V : Nat → Nat → Int32} {L K : Nat → Nat → Int64} {fs : Nat × Nat × Option Nat} {ns nt nh nb : Nat} {pg : Option (List zLine)}
theorem sp_X12_isBody (hd : 2 ≤ d) (hA : zMa I V) (hb : V 38 2 = nI nb) (h50 : nb ≤ 50) {b : Int32} : zPure g l d m_X12_isBody [.ref 64, .int b] I L fs (.int (bi (0 ≤ b ∧ b < nI nb))) := by
  refine zSp_of (lv := [(0, .ref 64), (1, .int b)]) k_X12_isBody rfl (Nat.le_of_ble_eq_true rfl) ?_
  refine zIloadN d_X12_isBody_0 rfl rfl (q := 1) rfl ?_
  refine zIconst d_X12_isBody_1 (v := 0) ic_0 (q := 2) rfl ?_
  refine zAloadN d_X12_isBody_2 rfl rfl (q := 3) rfl ?_
  refine zGetI d_X12_isBody_3 ff_X12_376 sh_64 (by decide) (q := 6) rfl ?_
  refine zIconst d_X12_isBody_6 (v := 1) ic_1 (q := 7) rfl ?_
  refine zIsub d_X12_isBody_7 (q := 8) rfl ?_
  refine zCallSP d_X12_isBody_8 ml_X12_127 k_X12_in kt_X12_in (sp_X12_in (d := d - 1) (by omega) ) rfl rfl (Nat.le_of_ble_eq_true rfl) (by decide) (by omega) zns100 (q := 11) rfl ?_
  refine zIret d_X12_isBody_11 rfl (by first | exact zn_bi | rfl) rfl ?_
  exact zPi (bi_iff (by rw [hA.1.1, hb, zle_pred (by omega)]))
/-- bodies are of kinds -/
def zKd (V : Nat → Nat → Int32) (nb : Nat) : Prop := ∀ i, i < nb → ∃ k, k < 8 ∧ V 39 i = nI k
theorem zKo_in {b : Int32} (hb : V 38 2 = nI nb) (h50 : nb ≤ 50) (hk : zKd V nb) (h : 0 ≤ b ∧ b < nI nb) : ∃ q k, q < nb ∧ k < 8 ∧ b = nI q ∧ V 39 q = nI k ∧ zKo V b = nI k := by
  obtain ⟨q, hq, rfl⟩ := zn1 (by omega) h.1 h.2
  obtain ⟨k, hk8, e⟩ := hk q hq
  exact ⟨q, k, hq, hk8, rfl, e, by unfold zKo; rw [hb, if_pos h, zcl_n (by omega), e]⟩
theorem zKo_out {b : Int32} (hb : V 38 2 = nI nb) (h : ¬ (0 ≤ b ∧ b < nI nb)) : zKo V b = -1 := by
  unfold zKo; rw [hb, if_neg h]
theorem zMa_act {t : List Int32} (hD : zMd I L V K pg) : zMd (zTrJ (zup I 64 (zup (I 64) 51 0)) 0 t) L (zTrI (zup V 38 (zup (V 38) 3 0)) 0 t) K pg := by
  refine zMd_a (I := I) (V := V) (fun a h1 h2 h3 => ?_) (fun k h1 h2 => ?_) (fun a ha => ?_) ?_ hD
  · unfold zTrJ; rw [zup_ne h1, zup_ne h3, zup_ne h1]
  · unfold zTrJ; rw [zup_eq, zup_ne h2]; exact zup_ne h2
  · unfold zTrI; rw [zup_ne (by omega), zup_ne (by omega), zup_ne (by omega)]
  · obtain ⟨⟨a1, a2⟩, a3, a4⟩ := hD.2.2.2.2.1
    refine ⟨⟨a1, rfl⟩, a3, ?_⟩
    show zTrF (I 95) 0 t = zTrF (V 40) 0 t
    rw [a4]
theorem sp_X12_act (hd : 11 ≤ d) (hD : zMd I L V K pg) (hb : V 38 2 = nI nb) (h50 : nb ≤ 50) (hkd : zKd V nb) {b a x v : Int32} {t : List Int32} (ht : t.length < 900)
    (hv : (0 ≤ zKo V b ∧ 0 ≤ a ∧ a < 4) → zDo 12 (zKo V b) (zKo V b) a b x = some (v, t)) (hv0 : ¬ (0 ≤ zKo V b ∧ 0 ≤ a ∧ a < 4) → v = 0 ∧ t = []) :
    zSp g l d 100 m_X12_act [.ref 64, .int b, .int a, .int x] (zU I L fs) (zX (fun y w => y = v ∧ ∃ J, w = zU J L fs ∧ zFrm I J ∧ zMd J L (zTrI (zup V 38 (zup (V 38) 3 0)) 0 t) K pg)) := by
  have hJ := zMa_act (t := t) hD
  have hF : zFrm I (zTrJ (zup I 64 (zup (I 64) 51 0)) 0 t) := zFrm_up (zFrm_up (zFrm_up zFrm_refl (by decide)) (by decide)) (by decide)
  have hA : zMa (zup I 64 (zup (I 64) 51 0)) (zup V 38 (zup (V 38) 3 0)) := ⟨⟨hD.2.2.2.2.1.1.1, rfl⟩, hD.2.2.2.2.1.2.1, hD.2.2.2.2.1.2.2⟩
  have none0 : ¬ (0 ≤ zKo V b ∧ 0 ≤ a ∧ a < 4) → v = 0 ∧ zU (zup I 64 (zup (I 64) 51 0)) L fs = zU (zTrJ (zup I 64 (zup (I 64) 51 0)) 0 t) L fs := by
    intro q
    obtain ⟨e1, rfl⟩ := hv0 q
    refine ⟨e1, ?_⟩
    unfold zTrJ
    rw [show zTrF ((zup I 64 (zup (I 64) 51 0)) 95) 0 [] = (zup I 64 (zup (I 64) 51 0)) 95 from rfl, zup_self, zup_zup, zup_eq, zup_zup]
    rfl
  have key : ∀ (k j : Nat), k < 8 → j < 4 → zKo V b = nI k → a = nI j → (v, t) = yAct (nI k) (nI j) b x := by
    intro k j hk hj e1 e2
    have h := hv ⟨by rw [e1]; exact zn_ge (by omega), by rw [e2]; exact zn_ge (by omega), by rw [e2]; exact (nI_ltI (b := 4) (by omega) (by omega)).mpr hj⟩
    rw [e1, e2, yAct_at hk hj] at h
    exact (Option.some.inj h).symm
  refine zSp_of (lv := [(0, .ref 64), (1, .int b), (2, .int a), (3, .int x)]) k_X12_act rfl (Nat.le_of_ble_eq_true rfl) ?_
  refine zAloadN d_X12_act_0 rfl rfl (q := 1) rfl ?_
  refine zIconst d_X12_act_1 (v := 0) ic_0 (q := 2) rfl ?_
  refine zPutI d_X12_act_2 ff_X12_379 rfl rfl rfl sh_64 (by decide) (q := 5) rfl ?_
  refine zAloadN d_X12_act_5 rfl rfl (q := 6) rfl ?_
  refine zIloadN d_X12_act_6 rfl rfl (q := 7) rfl ?_
  refine zCallVP d_X12_act_7 ml_X12_418 k_X12_isBody ki_X12_isBody ks_X12_isBody (sp_X12_isBody (d := d - 1) (by omega) hA (nb := nb) hb h50) rfl rfl sh_64 (by decide) rfl (by decide) (Nat.le_of_ble_eq_true rfl) (by decide) (by omega) zns100 (q := 10) rfl ?_
  refine zIf_eq d_X12_act_10 (tgt := 22) (q := 13) (by decide) rfl (fun h10 => ?_) (fun h10 => ?_)
  · obtain ⟨e1, e2⟩ := none0 (fun q => by rw [zKo_out hb (bi_0.mp h10)] at q; exact absurd q.1 (by decide))
    refine zIconst d_X12_act_22 (v := 0) ic_0 (q := 23) rfl ?_
    refine zIret d_X12_act_23 rfl rfl rfl ?_
    exact ⟨_, rfl, e1.symm, _, e2, hF, hJ⟩
  · obtain ⟨q, k, hq, hk, rfl, hkv, hko⟩ := zKo_in hb h50 hkd (bi_n0.mp h10)
    have hK94 : (zup I 64 (zup (I 64) 51 0)) 94 q = nI k := (congrFun hA.2.1 q).trans hkv
    refine zIloadN d_X12_act_13 rfl rfl (q := 14) rfl ?_
    refine zIconst d_X12_act_14 (v := 0) ic_0 (q := 15) rfl ?_
    refine zIconst d_X12_act_15 (v := 3) ic_3 (q := 16) rfl ?_
    refine zCallSP d_X12_act_16 ml_X12_127 k_X12_in kt_X12_in (sp_X12_in (d := d - 1) (by omega) ) rfl rfl (Nat.le_of_ble_eq_true rfl) (by decide) (by omega) zns100 (q := 19) rfl ?_
    refine zIf_ne d_X12_act_19 (tgt := 24) (q := 22) (by decide) rfl (fun h19 => ?_) (fun h19 => ?_)
    · obtain ⟨j, hj, rfl⟩ := zn1 (x := a) (n := 4) (by omega) (bi_n0.mp h19).1 (by have := (bi_n0.mp h19).2; have e4 : nI 4 = 4 := rfl; grind)
      have hy := key k j hk hj hko rfl
      refine zIloadN d_X12_act_24 rfl rfl (q := 25) rfl ?_
      refine zIf_ne d_X12_act_25 (tgt := 37) (q := 28) (by decide) rfl (fun h25 => ?_) (fun h25 => ?_)
      · refine zIloadN d_X12_act_37 rfl rfl (q := 38) rfl ?_
        refine zIconst d_X12_act_38 (v := 1) ic_1 (q := 39) rfl ?_
        refine zIcmp_ne d_X12_act_39 (tgt := 51) (q := 42) (by decide) rfl (fun h39 => ?_) (fun h39 => ?_)
        · refine zIloadN d_X12_act_51 rfl rfl (q := 52) rfl ?_
          refine zIconst d_X12_act_52 (v := 2) ic_2 (q := 53) rfl ?_
          refine zIcmp_ne d_X12_act_53 (tgt := 65) (q := 56) (by decide) rfl (fun h53 => ?_) (fun h53 => ?_)
          · have e3 : (v, t) = yTe (nI k) (nI q) x := hy.trans (by unfold yAct; rw [if_neg h25, if_neg h39, if_neg h53])
            have ev : v = (yTe (nI k) (nI q) x).1 := congrArg Prod.fst e3
            have et : t = (yTe (nI k) (nI q) x).2 := congrArg Prod.snd e3
            subst ev et
            refine zAloadN d_X12_act_65 rfl rfl (q := 66) rfl ?_
            refine zIloadN d_X12_act_66 rfl rfl (q := 67) rfl ?_
            refine zIloadN d_X12_act_67 rfl rfl (q := 68) rfl ?_
            refine zCallVX d_X12_act_68 ml_X12_421 k_X12_telling ki_X12_telling ks_X12_telling (sp_X12_telling (d := d - 1) (by omega) (by omega) hK94 (r := 0) rfl (by omega)) rfl rfl sh_64 (by decide) rfl (by decide) (Nat.le_of_ble_eq_true rfl) (by decide) (by omega) zns100 (q := 71) rfl (fun y w' hw' => ?_)
            obtain ⟨rfl, rfl⟩ := hw'
            refine zIret d_X12_act_71 rfl rfl rfl ?_
            exact ⟨_, rfl, rfl, _, rfl, hF, hJ⟩
          · have e3 : (v, t) = yLi (nI k) (nI q) x := hy.trans (by unfold yAct; rw [if_neg h25, if_neg h39, if_pos h53])
            have ev : v = (yLi (nI k) (nI q) x).1 := congrArg Prod.fst e3
            have et : t = (yLi (nI k) (nI q) x).2 := congrArg Prod.snd e3
            subst ev et
            refine zAloadN d_X12_act_56 rfl rfl (q := 57) rfl ?_
            refine zIloadN d_X12_act_57 rfl rfl (q := 58) rfl ?_
            refine zIloadN d_X12_act_58 rfl rfl (q := 59) rfl ?_
            refine zCallVX d_X12_act_59 ml_X12_403 k_X12_lying ki_X12_lying ks_X12_lying (sp_X12_lying (d := d - 1) (by omega) (by omega) hK94 (r := 0) rfl (by omega)) rfl rfl sh_64 (by decide) rfl (by decide) (Nat.le_of_ble_eq_true rfl) (by decide) (by omega) zns100 (q := 62) rfl (fun y w' hw' => ?_)
            obtain ⟨rfl, rfl⟩ := hw'
            refine zGoto d_X12_act_62 (q := 71) (by decide) ?_
            refine zIret d_X12_act_71 rfl rfl rfl ?_
            exact ⟨_, rfl, rfl, _, rfl, hF, hJ⟩
        · have e3 : (v, t) = yDr (nI k) (nI q) x := hy.trans (by unfold yAct; rw [if_neg h25, if_pos h39])
          have ev : v = (yDr (nI k) (nI q) x).1 := congrArg Prod.fst e3
          have et : t = (yDr (nI k) (nI q) x).2 := congrArg Prod.snd e3
          subst ev et
          refine zAloadN d_X12_act_42 rfl rfl (q := 43) rfl ?_
          refine zIloadN d_X12_act_43 rfl rfl (q := 44) rfl ?_
          refine zIloadN d_X12_act_44 rfl rfl (q := 45) rfl ?_
          refine zCallVX d_X12_act_45 ml_X12_412 k_X12_dropping ki_X12_dropping ks_X12_dropping (sp_X12_dropping (d := d - 1) (by omega) (by omega) hK94 (r := 0) rfl (by omega)) rfl rfl sh_64 (by decide) rfl (by decide) (Nat.le_of_ble_eq_true rfl) (by decide) (by omega) zns100 (q := 48) rfl (fun y w' hw' => ?_)
          obtain ⟨rfl, rfl⟩ := hw'
          refine zGoto d_X12_act_48 (q := 71) (by decide) ?_
          refine zIret d_X12_act_71 rfl rfl rfl ?_
          exact ⟨_, rfl, rfl, _, rfl, hF, hJ⟩
      · have e3 : (v, t) = ySt (nI k) (nI q) x := hy.trans (if_pos h25)
        have ev : v = (ySt (nI k) (nI q) x).1 := congrArg Prod.fst e3
        have et : t = (ySt (nI k) (nI q) x).2 := congrArg Prod.snd e3
        subst ev et
        refine zAloadN d_X12_act_28 rfl rfl (q := 29) rfl ?_
        refine zIloadN d_X12_act_29 rfl rfl (q := 30) rfl ?_
        refine zIloadN d_X12_act_30 rfl rfl (q := 31) rfl ?_
        refine zCallVX d_X12_act_31 ml_X12_394 k_X12_sticking ki_X12_sticking ks_X12_sticking (sp_X12_sticking (d := d - 1) (by omega) (by omega) hK94 (r := 0) rfl (by omega)) rfl rfl sh_64 (by decide) rfl (by decide) (Nat.le_of_ble_eq_true rfl) (by decide) (by omega) zns100 (q := 34) rfl (fun y w' hw' => ?_)
        obtain ⟨rfl, rfl⟩ := hw'
        refine zGoto d_X12_act_34 (q := 71) (by decide) ?_
        refine zIret d_X12_act_71 rfl rfl rfl ?_
        exact ⟨_, rfl, rfl, _, rfl, hF, hJ⟩
    · obtain ⟨e1, e2⟩ := none0 (fun z => bi_0.mp h19 ⟨z.2.1, by have := z.2.2; grind⟩)
      refine zIconst d_X12_act_22 (v := 0) ic_0 (q := 23) rfl ?_
      refine zIret d_X12_act_23 rfl rfl rfl ?_
      exact ⟨_, rfl, e1.symm, _, e2, hF, hJ⟩
theorem sp_X12_trace (hd : 1 ≤ d) (hA : zMa I V) {i : Int32} : zPure g l d m_X12_trace [.ref 64, .int i] I L fs (.int (if 0 ≤ i ∧ i < (if 24 < V 38 3 then 24 else V 38 3) then V 40 i.toNatClampNeg else -1)) := by
  obtain ⟨⟨a1, a2⟩, a3, a4⟩ := hA
  refine zSp_of (lv := [(0, .ref 64), (1, .int i)]) k_X12_trace rfl (Nat.le_of_ble_eq_true rfl) ?_
  refine zIloadN d_X12_trace_0 rfl rfl (q := 1) rfl ?_
  refine zIf_lt d_X12_trace_1 (tgt := 27) (q := 4) (by decide) rfl (fun h1 => ?_) (fun h1 => ?_)
  · refine zIconst d_X12_trace_27 (v := -1) ic_m1 (q := 28) rfl ?_
    refine zIret d_X12_trace_28 rfl rfl rfl ?_
    first
    | exact zPi (by rw [if_neg (by grind)])
    | exact zPi (by rw [if_pos (by grind), a4, zcl_n (by omega)])
  · refine zIloadN d_X12_trace_4 rfl rfl (q := 5) rfl ?_
    refine zAloadN d_X12_trace_5 rfl rfl (q := 6) rfl ?_
    refine zGetI d_X12_trace_6 ff_X12_379 sh_64 (by decide) (q := 9) rfl ?_
    refine zIcmp_ge d_X12_trace_9 (tgt := 27) (q := 12) (by decide) rfl (fun h9 => ?_) (fun h9 => ?_)
    · refine zIconst d_X12_trace_27 (v := -1) ic_m1 (q := 28) rfl ?_
      refine zIret d_X12_trace_28 rfl rfl rfl ?_
      first
      | exact zPi (by rw [if_neg (by grind)])
      | exact zPi (by rw [if_pos (by grind), a4, zcl_n (by omega)])
    · refine zIloadN d_X12_trace_12 rfl rfl (q := 13) rfl ?_
      refine zBipush d_X12_trace_13 (v := 24) bc_24 (q := 15) rfl ?_
      refine zIcmp_ge d_X12_trace_15 (tgt := 27) (q := 18) (by decide) rfl (fun h15 => ?_) (fun h15 => ?_)
      · refine zIconst d_X12_trace_27 (v := -1) ic_m1 (q := 28) rfl ?_
        refine zIret d_X12_trace_28 rfl rfl rfl ?_
        first
        | exact zPi (by rw [if_neg (by grind)])
        | exact zPi (by rw [if_pos (by grind), a4, zcl_n (by omega)])
      · obtain ⟨j, hj, rfl⟩ := zn1 (x := i) (n := 24) (by omega) (by grind) (by have : nI 24 = 24 := rfl; grind)
        refine zAloadN d_X12_trace_18 rfl rfl (q := 19) rfl ?_
        refine zGetR d_X12_trace_19 ff_X12_104 sh_64 (by decide) r_64_52 (q := 22) rfl ?_
        refine zIloadN d_X12_trace_22 rfl rfl (q := 23) rfl ?_
        refine zIald d_X12_trace_23 sh_95 (by decide) rfl hj (q := 24) rfl ?_
        refine zGoto d_X12_trace_24 (q := 28) (by decide) ?_
        refine zIret d_X12_trace_28 rfl rfl rfl ?_
        first
        | exact zPi (by rw [if_neg (by grind)])
        | exact zPi (by rw [if_pos (by grind), a4, zcl_n (by omega)])
theorem sp_X12_body (hd : 2 ≤ d) (hD : zMd I L V K pg) (hb : V 38 2 = nI nb) (h50 : nb ≤ 50) {k : Int32} : zSp g l d 100 m_X12_body [.ref 64, .int k] (zU I L fs) (zX (fun x w => (¬ (0 ≤ k ∧ k < 8) ∧ x = -1 ∧ w = zU I L fs) ∨ ((0 ≤ k ∧ k < 8) ∧ nb = 50 ∧ x = -3 ∧ w = zU I L fs) ∨ ((0 ≤ k ∧ k < 8) ∧ nb < 50 ∧ x = nI nb ∧ ∃ J, w = zU J L fs ∧ zFrm I J ∧ zMd J L (zup (zup V 39 (zup (V 39) nb k)) 38 (zup (V 38) 2 (nI (nb + 1)))) K pg))) := by
  have e1 : I 64 49 = nI nb := hD.2.2.2.2.1.1.1.trans hb
  have e2 : I 64 49 + 1 = nI (nb + 1) := by rw [e1, nI_1]
  have hc : (0 ≤ k ∧ k < 8) ↔ (0 ≤ k ∧ k ≤ 7) := by grind
  rw [hc]
  refine zSp_of (lv := [(0, .ref 64), (1, .int k)]) k_X12_body rfl (Nat.le_of_ble_eq_true rfl) ?_
  refine zIloadN d_X12_body_0 rfl rfl (q := 1) rfl ?_
  refine zIconst d_X12_body_1 (v := 0) ic_0 (q := 2) rfl ?_
  refine zBipush d_X12_body_2 (v := 7) bc_7 (q := 4) rfl ?_
  refine zCallSP d_X12_body_4 ml_X12_127 k_X12_in kt_X12_in (sp_X12_in (d := d - 1) (by omega) ) rfl rfl (Nat.le_of_ble_eq_true rfl) (by decide) (by omega) zns100 (q := 7) rfl ?_
  refine zIf_ne d_X12_body_7 (tgt := 12) (q := 10) (by decide) rfl (fun h7 => ?_) (fun h7 => ?_)
  · refine zAloadN d_X12_body_12 rfl rfl (q := 13) rfl ?_
    refine zGetI d_X12_body_13 ff_X12_376 sh_64 (by decide) (q := 16) rfl ?_
    refine zBipush d_X12_body_16 (v := 50) bc_50 (q := 18) rfl ?_
    refine zIcmp_ne d_X12_body_18 (tgt := 24) (q := 21) (by decide) rfl (fun h18 => ?_) (fun h18 => ?_)
    · have n50 : nb < 50 := by rcases Nat.eq_or_lt_of_le h50 with q | q; exact absurd (e1.trans (by rw [q]; rfl)) h18; exact q
      refine zAloadN d_X12_body_24 rfl rfl (q := 25) rfl ?_
      refine zGetR d_X12_body_25 ff_X12_101 sh_64 (by decide) r_64_50 (q := 28) rfl ?_
      refine zAloadN d_X12_body_28 rfl rfl (q := 29) rfl ?_
      refine zGetI d_X12_body_29 ff_X12_376 sh_64 (by decide) (q := 32) rfl ?_
      refine zIloadN d_X12_body_32 rfl rfl (q := 33) rfl ?_
      refine zIast d_X12_body_33 sh_94 (by decide) e1 n50 (q := 34) rfl ?_
      refine zAloadN d_X12_body_34 rfl rfl (q := 35) rfl ?_
      refine zDup d_X12_body_35 rfl (q := 36) rfl ?_
      refine zGetI d_X12_body_36 ff_X12_376 sh_64 (by decide) (q := 39) rfl ?_
      refine zIconst d_X12_body_39 (v := 1) ic_1 (q := 40) rfl ?_
      refine zIadd d_X12_body_40 (q := 41) rfl ?_
      rw [show (zup I 94 (zup (I 94) nb k)) 64 49 + 1 = nI (nb + 1) from e2]
      refine zPutI d_X12_body_41 ff_X12_376 rfl rfl rfl sh_64 (by decide) (q := 44) rfl ?_
      refine zAloadN d_X12_body_44 rfl rfl (q := 45) rfl ?_
      refine zGetI d_X12_body_45 ff_X12_376 sh_64 (by decide) (q := 48) rfl ?_
      refine zIconst d_X12_body_48 (v := 1) ic_1 (q := 49) rfl ?_
      refine zIsub d_X12_body_49 (q := 50) rfl ?_
      refine zIret d_X12_body_50 rfl rfl rfl ?_
      refine ⟨_, rfl, Or.inr (Or.inr ⟨bi_n0.mp h7, n50, nI_pred nb, _, rfl, zFrm_up (zFrm_up zFrm_refl (by decide)) (by decide), ?_⟩)⟩
      refine zMd_a (I := I) (V := V) (fun a h1 h2 h3 => by rw [zup_ne h1, zup_ne h2]) (fun i h1 h2 => by rw [zup_eq, zup_ne h1]; rfl) (fun a ha => by rw [zup_ne (by omega), zup_ne (by omega)]) ?_ hD
      obtain ⟨⟨a1, a2⟩, a3, a4⟩ := hD.2.2.2.2.1
      exact ⟨⟨rfl, a2⟩, (show zup (I 94) nb k = zup (V 39) nb k by rw [a3]), a4⟩
    · have e : nb = 50 := (nI_eq (b := 50) (by omega) (by decide)).mp (e1.symm.trans h18)
      refine zBipush d_X12_body_21 (v := -3) bc_m3 (q := 23) rfl ?_
      refine zIret d_X12_body_23 rfl rfl rfl ?_
      exact ⟨_, rfl, Or.inr (Or.inl ⟨bi_n0.mp h7, e, rfl, rfl⟩)⟩
  · refine zIconst d_X12_body_10 (v := -1) ic_m1 (q := 11) rfl ?_
    refine zIret d_X12_body_11 rfl rfl rfl ?_
    exact ⟨_, rfl, Or.inl ⟨bi_0.mp h7, rfl, rfl⟩⟩
theorem sp_X12_feed (hd : 2 ≤ d) (hD : zMd I L V K pg) {m : Nat} (ht : V 29 1 = nI m) (hm : m ≤ 120) {b : Int32} : zSp g l d 100 m_X12_feed [.ref 64, .int b] (zU I L fs) (zX (fun x w => if b < 0 ∨ 255 < b then x = -1 ∧ w = zU I L fs else if m < 120 then x = nI (m + 1) ∧ ∃ J, w = zU J L fs ∧ zFrm I J ∧ zMd J L (zup (zup V 30 (zup (V 30) m b)) 29 (zup (V 29) 1 (nI (m + 1)))) K pg else x = -3 ∧ w = zU I L fs)) := by
  have e1 : I 64 21 = nI m := hD.2.1.1.trans ht
  have e2 : I 64 21 + 1 = nI (m + 1) := by rw [e1, nI_1]
  refine zSp_of (lv := [(0, .ref 64), (1, .int b)]) k_X12_feed rfl (Nat.le_of_ble_eq_true rfl) ?_
  refine zIloadN d_X12_feed_0 rfl rfl (q := 1) rfl ?_
  refine zIconst d_X12_feed_1 (v := 0) ic_0 (q := 2) rfl ?_
  refine zSipush d_X12_feed_2 (v := 255) sc_255 (q := 5) rfl ?_
  refine zCallSP d_X12_feed_5 ml_X12_127 k_X12_in kt_X12_in (sp_X12_in (d := d - 1) (by omega) ) rfl rfl (Nat.le_of_ble_eq_true rfl) (by decide) (by omega) zns100 (q := 8) rfl ?_
  refine zIf_ne d_X12_feed_8 (tgt := 13) (q := 11) (by decide) rfl (fun h8 => ?_) (fun h8 => ?_)
  · refine zAloadN d_X12_feed_13 rfl rfl (q := 14) rfl ?_
    refine zGetI d_X12_feed_14 ff_X12_188 sh_64 (by decide) (q := 17) rfl ?_
    refine zBipush d_X12_feed_17 (v := 120) bc_120 (q := 19) rfl ?_
    refine zIcmp_ne d_X12_feed_19 (tgt := 25) (q := 22) (by decide) rfl (fun h19 => ?_) (fun h19 => ?_)
    · have n120 : m < 120 := by rcases Nat.eq_or_lt_of_le hm with q | q; exact absurd (e1.trans (by rw [q]; rfl)) h19; exact q
      refine zAloadN d_X12_feed_25 rfl rfl (q := 26) rfl ?_
      refine zGetR d_X12_feed_26 ff_X12_54 sh_64 (by decide) r_64_20 (q := 29) rfl ?_
      refine zAloadN d_X12_feed_29 rfl rfl (q := 30) rfl ?_
      refine zGetI d_X12_feed_30 ff_X12_188 sh_64 (by decide) (q := 33) rfl ?_
      refine zIloadN d_X12_feed_33 rfl rfl (q := 34) rfl ?_
      refine zI2b d_X12_feed_34 (q := 35) rfl ?_
      refine zBast d_X12_feed_35 sh_79 (by decide) e1 n120 (q := 36) rfl ?_
      refine zAloadN d_X12_feed_36 rfl rfl (q := 37) rfl ?_
      refine zDup d_X12_feed_37 rfl (q := 38) rfl ?_
      refine zGetI d_X12_feed_38 ff_X12_188 sh_64 (by decide) (q := 41) rfl ?_
      refine zIconst d_X12_feed_41 (v := 1) ic_1 (q := 42) rfl ?_
      refine zIadd d_X12_feed_42 (q := 43) rfl ?_
      rw [show (zup I 79 (zup (I 79) m b.toInt8.toInt32.toInt8.toInt32)) 64 21 + 1 = nI (m + 1) from e2]
      refine zPutI d_X12_feed_43 ff_X12_188 rfl rfl rfl sh_64 (by decide) (q := 46) rfl ?_
      refine zAloadN d_X12_feed_46 rfl rfl (q := 47) rfl ?_
      refine zGetI d_X12_feed_47 ff_X12_188 sh_64 (by decide) (q := 50) rfl ?_
      refine zIret d_X12_feed_50 rfl rfl rfl ?_
      refine ⟨_, rfl, ?_⟩
      have c : ¬ (b < 0 ∨ 255 < b) := by have := bi_n0.mp h8; grind
      dsimp only
      rw [if_neg c, if_pos n120]
      refine ⟨rfl, _, rfl, zFrm_up (zFrm_up zFrm_refl (by decide)) (by decide), ?_⟩
      refine zMd_t (I := I) (V := V) (fun a h1 h2 => by rw [zup_ne h1, zup_ne h2]) (fun i h1 => by rw [zup_eq, zup_ne h1]; rfl) (fun a h1 h2 => by rw [zup_ne h1, zup_ne h2]) ⟨rfl, ?_⟩ hD
      show zup (I 79) m b.toInt8.toInt32.toInt8.toInt32 = fun k => (zup (V 30) m b k).toInt8.toInt32
      rw [hD.2.1.2]
      funext j
      by_cases e : j = m
      · subst e; rw [zup_eq, zup_eq]; simp
      · rw [zup_ne e, zup_ne e]
    · have e : m = 120 := (nI_eq (b := 120) (by omega) (by decide)).mp (e1.symm.trans h19)
      refine zBipush d_X12_feed_22 (v := -3) bc_m3 (q := 24) rfl ?_
      refine zIret d_X12_feed_24 rfl rfl rfl ?_
      have c : ¬ (b < 0 ∨ 255 < b) := by have := bi_n0.mp h8; grind
      exact ⟨_, rfl, by dsimp only; rw [if_neg c, if_neg (by omega)]; exact ⟨rfl, rfl⟩⟩
  · refine zIconst d_X12_feed_11 (v := -1) ic_m1 (q := 12) rfl ?_
    refine zIret d_X12_feed_12 rfl rfl rfl ?_
    have c : b < 0 ∨ 255 < b := by have := bi_0.mp h8; grind
    exact ⟨_, rfl, by dsimp only; rw [if_pos c]; exact ⟨rfl, rfl⟩⟩
end S45

