/-! THE LAW: THE LOOP -/
theorem zlt6 {n i : Nat} (hn : n < 2 ^ 31) (hi : i < 2 ^ 31) (h : ¬ nI n - 6 < nI i) : i + 6 ≤ n := by
  by_cases e : 6 ≤ n
  · have q : nI n - 6 = nI (n - 6) := by
      have q2 : nI (n - 6) + nI 6 = nI n := by rw [nI_add]; congr 1; omega
      rw [← q2]
      exact Int32.add_sub_cancel _ _
    rw [q] at h
    have : ¬ n - 6 < i := fun z => h (nI_lt z hi)
    omega
  · exfalso
    have h0 : 0 ≤ nI i := nI_pos' hi
    have hm : nI n - 6 < 0 := by
      have : n < 6 := by omega
      match n, this with
      | 0, _ => decide
      | 1, _ => decide
      | 2, _ => decide
      | 3, _ => decide
      | 4, _ => decide
      | 5, _ => decide
    exact h (Int32.lt_of_lt_of_le hm h0)
section S93
variable {g : zG} {l : Launch} {d i h h2 : Nat} {I : Nat → Nat → Int32} {L : Nat → Nat → Int64} {o : Option Nat} {Q : Option Value → zW → Prop}
theorem lw_turn (hd : 100 ≤ d) (hL31 : zgL g < 2 ^ 31) (hi31 : i < 2 ^ 31) (hQ : ∀ I L h h2 o, zIv I L h h2 → Q (some (.int 1)) (zU I L (h, h2, o))) (hv : zIv I L h h2) (K : i + 6 ≤ zgL g → zLwK g l d i Q) : zLA g l d I L (h, h2, o) 18 [(3, .int (nI i)), (0, .ref 1004), (1, .ref 0), (2, .ref 64)] Q := by
  refine zIloadN d_L_law_18 rfl rfl (q := 19) rfl ?_
  refine zAloadN d_L_law_19 rfl rfl (q := 20) rfl ?_
  refine zSlen d_L_law_20 (q := 21) rfl ?_
  refine zBipush d_L_law_21 (v := 6) bc_6 (q := 23) rfl ?_
  refine zIsub d_L_law_23 (q := 24) rfl ?_
  refine zIcmp_gt d_L_law_24 (tgt := 1424) (q := 27) (by decide) rfl (fun h24 => ?_) (fun h24 => ?_)
  · refine zIconst d_L_law_1424 (v := 1) ic_1 (q := 1425) rfl ?_
    refine zIret d_L_law_1425 rfl (by first | exact zn_bi | rfl) rfl ?_
    exact hQ _ _ _ _ _ hv
  · have hi : i + 6 ≤ zgL g := zlt6 hL31 hi31 h24
    have K0 := K hi
    refine zAloadN d_L_law_27 rfl rfl (q := 28) rfl ?_
    refine zIloadN d_L_law_28 rfl rfl (q := 29) rfl ?_
    refine zSld d_L_law_29 rfl (by omega) hL31 (q := 30) rfl ?_
    refine zBipush d_L_law_30 (v := 63) bc_63 (q := 32) rfl ?_
    refine zIand d_L_law_32 (q := 33) rfl ?_
    rcases Decidable.em (zgX g i &&& 63 = (0 : Int32)) with s33_0 | s33_0
    · refine zTabAt s33_0 d_L_law_33 (by decide) (by decide) (off := 179) (by decide) (q := 212) (by decide) ?_
      refine zSub [0, 1, 2, 3] rfl ?_
      exact lw_star hd hL31 hi hv K0
    rcases Decidable.em (zgX g i &&& 63 = (1 : Int32)) with s33_1 | s33_1
    · refine zTabAt s33_1 d_L_law_33 (by decide) (by decide) (off := 202) (by decide) (q := 235) (by decide) ?_
      refine zSub [0, 1, 2, 3] rfl ?_
      exact lw_stars hd hL31 hi hv K0
    rcases Decidable.em (zgX g i &&& 63 = (2 : Int32)) with s33_2 | s33_2
    · refine zTabAt s33_2 d_L_law_33 (by decide) (by decide) (off := 245) (by decide) (q := 278) (by decide) ?_
      refine zSub [0, 1, 2, 3] rfl ?_
      exact lw_thrower hd hL31 hi hv K0
    rcases Decidable.em (zgX g i &&& 63 = (3 : Int32)) with s33_3 | s33_3
    · refine zTabAt s33_3 d_L_law_33 (by decide) (by decide) (off := 268) (by decide) (q := 301) (by decide) ?_
      refine zSub [0, 1, 2, 3] rfl ?_
      exact lw_ship hd hL31 hi hv K0
    rcases Decidable.em (zgX g i &&& 63 = (4 : Int32)) with s33_4 | s33_4
    · refine zTabAt s33_4 d_L_law_33 (by decide) (by decide) (off := 291) (by decide) (q := 324) (by decide) ?_
      refine zSub [0, 1, 2, 3] rfl ?_
      exact lw_mend hd hL31 hi hv K0
    rcases Decidable.em (zgX g i &&& 63 = (5 : Int32)) with s33_5 | s33_5
    · refine zTabAt s33_5 d_L_law_33 (by decide) (by decide) (off := 334) (by decide) (q := 367) (by decide) ?_
      refine zSub [0, 1, 2, 3] rfl ?_
      exact lw_of hd hL31 hi hv K0
    rcases Decidable.em (zgX g i &&& 63 = (6 : Int32)) with s33_6 | s33_6
    · refine zTabAt s33_6 d_L_law_33 (by decide) (by decide) (off := 367) (by decide) (q := 400) (by decide) ?_
      refine zSub [0, 1, 2, 3] rfl ?_
      exact lw_feed hd hL31 hi hv K0
    rcases Decidable.em (zgX g i &&& 63 = (7 : Int32)) with s33_7 | s33_7
    · refine zTabAt s33_7 d_L_law_33 (by decide) (by decide) (off := 390) (by decide) (q := 423) (by decide) ?_
      refine zSub [0, 1, 2, 3] rfl ?_
      exact lw_law hd hL31 hi hv K0
    rcases Decidable.em (zgX g i &&& 63 = (8 : Int32)) with s33_8 | s33_8
    · refine zTabAt s33_8 d_L_law_33 (by decide) (by decide) (off := 403) (by decide) (q := 436) (by decide) ?_
      refine zSub [0, 1, 2, 3] rfl ?_
      exact lw_odds hd hL31 hi hv K0
    rcases Decidable.em (zgX g i &&& 63 = (9 : Int32)) with s33_9 | s33_9
    · refine zTabAt s33_9 d_L_law_33 (by decide) (by decide) (off := 426) (by decide) (q := 459) (by decide) ?_
      refine zSub [0, 1, 2, 3] rfl ?_
      exact lw_flung hd hL31 hi hv K0
    rcases Decidable.em (zgX g i &&& 63 = (10 : Int32)) with s33_10 | s33_10
    · refine zTabAt s33_10 d_L_law_33 (by decide) (by decide) (off := 459) (by decide) (q := 492) (by decide) ?_
      refine zSub [0, 1, 2, 3] rfl ?_
      exact lw_likely hd hL31 hi hv K0
    rcases Decidable.em (zgX g i &&& 63 = (11 : Int32)) with s33_11 | s33_11
    · refine zTabAt s33_11 d_L_law_33 (by decide) (by decide) (off := 493) (by decide) (q := 526) (by decide) ?_
      refine zSub [0, 1, 2, 3] rfl ?_
      exact lw_mean hd hL31 hi hv K0
    rcases Decidable.em (zgX g i &&& 63 = (12 : Int32)) with s33_12 | s33_12
    · refine zTabAt s33_12 d_L_law_33 (by decide) (by decide) (off := 527) (by decide) (q := 560) (by decide) ?_
      refine zSub [0, 1, 2, 3] rfl ?_
      exact lw_dealt hd hL31 hi hv K0
    rcases Decidable.em (zgX g i &&& 63 = (13 : Int32)) with s33_13 | s33_13
    · refine zTabAt s33_13 d_L_law_33 (by decide) (by decide) (off := 550) (by decide) (q := 583) (by decide) ?_
      refine zSub [0, 1, 2, 3] rfl ?_
      exact lw_drops hd hL31 hi hv K0
    rcases Decidable.em (zgX g i &&& 63 = (14 : Int32)) with s33_14 | s33_14
    · refine zTabAt s33_14 d_L_law_33 (by decide) (by decide) (off := 573) (by decide) (q := 606) (by decide) ?_
      refine zSub [0, 1, 2, 3] rfl ?_
      exact lw_upBy hd hL31 hi hv K0
    rcases Decidable.em (zgX g i &&& 63 = (15 : Int32)) with s33_15 | s33_15
    · refine zTabAt s33_15 d_L_law_33 (by decide) (by decide) (off := 596) (by decide) (q := 629) (by decide) ?_
      refine zSub [0, 1, 2, 3] rfl ?_
      exact lw_lies hd hL31 hi hv K0
    rcases Decidable.em (zgX g i &&& 63 = (16 : Int32)) with s33_16 | s33_16
    · refine zTabAt s33_16 d_L_law_33 (by decide) (by decide) (off := 619) (by decide) (q := 652) (by decide) ?_
      refine zSub [0, 1, 2, 3] rfl ?_
      exact lw_walk hd hL31 hi hv K0
    rcases Decidable.em (zgX g i &&& 63 = (17 : Int32)) with s33_17 | s33_17
    · refine zTabAt s33_17 d_L_law_33 (by decide) (by decide) (off := 662) (by decide) (q := 695) (by decide) ?_
      refine zSub [0, 1, 2, 3] rfl ?_
      exact lw_steer hd hL31 hi hv K0
    rcases Decidable.em (zgX g i &&& 63 = (18 : Int32)) with s33_18 | s33_18
    · refine zTabAt s33_18 d_L_law_33 (by decide) (by decide) (off := 675) (by decide) (q := 708) (by decide) ?_
      refine zSub [0, 1, 2, 3] rfl ?_
      exact lw_fewest hd hL31 hi hv K0
    rcases Decidable.em (zgX g i &&& 63 = (19 : Int32)) with s33_19 | s33_19
    · refine zTabAt s33_19 d_L_law_33 (by decide) (by decide) (off := 698) (by decide) (q := 731) (by decide) ?_
      refine zSub [0, 1, 2, 3] rfl ?_
      exact lw_home hd hL31 hi hv K0
    rcases Decidable.em (zgX g i &&& 63 = (20 : Int32)) with s33_20 | s33_20
    · refine zTabAt s33_20 d_L_law_33 (by decide) (by decide) (off := 731) (by decide) (q := 764) (by decide) ?_
      refine zSub [0, 1, 2, 3] rfl ?_
      exact lw_pattern hd hL31 hi hv K0
    rcases Decidable.em (zgX g i &&& 63 = (21 : Int32)) with s33_21 | s33_21
    · refine zTabAt s33_21 d_L_law_33 (by decide) (by decide) (off := 764) (by decide) (q := 797) (by decide) ?_
      refine zSub [0, 1, 2, 3] rfl ?_
      exact lw_byTurns hd hL31 hi hv K0
    rcases Decidable.em (zgX g i &&& 63 = (22 : Int32)) with s33_22 | s33_22
    · refine zTabAt s33_22 d_L_law_33 (by decide) (by decide) (off := 797) (by decide) (q := 830) (by decide) ?_
      refine zSub [0, 1, 2, 3] rfl ?_
      exact lw_drawn hd hL31 hi hv K0
    rcases Decidable.em (zgX g i &&& 63 = (23 : Int32)) with s33_23 | s33_23
    · refine zTabAt s33_23 d_L_law_33 (by decide) (by decide) (off := 850) (by decide) (q := 883) (by decide) ?_
      refine zSub [0, 1, 2, 3] rfl ?_
      exact lw_fling hd hL31 hi hv K0
    rcases Decidable.em (zgX g i &&& 63 = (24 : Int32)) with s33_24 | s33_24
    · refine zTabAt s33_24 d_L_law_33 (by decide) (by decide) (off := 873) (by decide) (q := 906) (by decide) ?_
      refine zSub [0, 1, 2, 3] rfl ?_
      exact lw_pass hd hL31 hi hv K0
    rcases Decidable.em (zgX g i &&& 63 = (25 : Int32)) with s33_25 | s33_25
    · refine zTabAt s33_25 d_L_law_33 (by decide) (by decide) (off := 896) (by decide) (q := 929) (by decide) ?_
      refine zSub [0, 1, 2, 3] rfl ?_
      exact lw_pocket hd hL31 hi hv K0
    rcases Decidable.em (zgX g i &&& 63 = (26 : Int32)) with s33_26 | s33_26
    · refine zTabAt s33_26 d_L_law_33 (by decide) (by decide) (off := 919) (by decide) (q := 952) (by decide) ?_
      refine zSub [0, 1, 2, 3] rfl ?_
      exact lw_led hd hL31 hi hv K0
    rcases Decidable.em (zgX g i &&& 63 = (27 : Int32)) with s33_27 | s33_27
    · refine zTabAt s33_27 d_L_law_33 (by decide) (by decide) (off := 942) (by decide) (q := 975) (by decide) ?_
      refine zSub [0, 1, 2, 3] rfl ?_
      exact lw_image hd hL31 hi hv K0
    rcases Decidable.em (zgX g i &&& 63 = (28 : Int32)) with s33_28 | s33_28
    · refine zTabAt s33_28 d_L_law_33 (by decide) (by decide) (off := 955) (by decide) (q := 988) (by decide) ?_
      refine zSub [0, 1, 2, 3] rfl ?_
      exact lw_back hd hL31 hi hv K0
    rcases Decidable.em (zgX g i &&& 63 = (29 : Int32)) with s33_29 | s33_29
    · refine zTabAt s33_29 d_L_law_33 (by decide) (by decide) (off := 968) (by decide) (q := 1001) (by decide) ?_
      refine zSub [0, 1, 2, 3] rfl ?_
      exact lw_undo hd hL31 hi hv K0
    rcases Decidable.em (zgX g i &&& 63 = (30 : Int32)) with s33_30 | s33_30
    · refine zTabAt s33_30 d_L_law_33 (by decide) (by decide) (off := 981) (by decide) (q := 1014) (by decide) ?_
      refine zSub [0, 1, 2, 3] rfl ?_
      exact lw_redo hd hL31 hi hv K0
    rcases Decidable.em (zgX g i &&& 63 = (31 : Int32)) with s33_31 | s33_31
    · refine zTabAt s33_31 d_L_law_33 (by decide) (by decide) (off := 994) (by decide) (q := 1027) (by decide) ?_
      refine zSub [0, 1, 2, 3] rfl ?_
      exact lw_body hd hL31 hi hv K0
    rcases Decidable.em (zgX g i &&& 63 = (32 : Int32)) with s33_32 | s33_32
    · refine zTabAt s33_32 d_L_law_33 (by decide) (by decide) (off := 1017) (by decide) (q := 1050) (by decide) ?_
      refine zSub [0, 1, 2, 3] rfl ?_
      exact lw_act hd hL31 hi hv K0
    rcases Decidable.em (zgX g i &&& 63 = (33 : Int32)) with s33_33 | s33_33
    · refine zTabAt s33_33 d_L_law_33 (by decide) (by decide) (off := 1060) (by decide) (q := 1093) (by decide) ?_
      refine zSub [0, 1, 2, 3] rfl ?_
      exact lw_trace hd hL31 hi hv K0
    rcases Decidable.em (zgX g i &&& 63 = (34 : Int32)) with s33_34 | s33_34
    · refine zTabAt s33_34 d_L_law_33 (by decide) (by decide) (off := 1083) (by decide) (q := 1116) (by decide) ?_
      refine zSub [0, 1, 2, 3] rfl ?_
      exact lw_keep hd hL31 hi hv K0
    rcases Decidable.em (zgX g i &&& 63 = (35 : Int32)) with s33_35 | s33_35
    · refine zTabAt s33_35 d_L_law_33 (by decide) (by decide) (off := 1116) (by decide) (q := 1149) (by decide) ?_
      refine zSub [0, 1, 2, 3] rfl ?_
      exact lw_row hd hL31 hi hv K0
    rcases Decidable.em (zgX g i &&& 63 = (36 : Int32)) with s33_36 | s33_36
    · refine zTabAt s33_36 d_L_law_33 (by decide) (by decide) (off := 1159) (by decide) (q := 1192) (by decide) ?_
      refine zSub [0, 1, 2, 3] rfl ?_
      exact lw_put hd hL31 hi hv K0
    rcases Decidable.em (zgX g i &&& 63 = (37 : Int32)) with s33_37 | s33_37
    · refine zTabAt s33_37 d_L_law_33 (by decide) (by decide) (off := 1232) (by decide) (q := 1265) (by decide) ?_
      refine zSub [0, 1, 2, 3] rfl ?_
      exact lw_element hd hL31 hi hv K0
    rcases Decidable.em (zgX g i &&& 63 = (38 : Int32)) with s33_38 | s33_38
    · refine zTabAt s33_38 d_L_law_33 (by decide) (by decide) (off := 1266) (by decide) (q := 1299) (by decide) ?_
      refine zSub [0, 1, 2, 3] rfl ?_
      exact lw_shift hd hL31 hi hv K0
    rcases Decidable.em (zgX g i &&& 63 = (39 : Int32)) with s33_39 | s33_39
    · refine zTabAt s33_39 d_L_law_33 (by decide) (by decide) (off := 1329) (by decide) (q := 1362) (by decide) ?_
      refine zSub [0, 1, 2, 3] rfl ?_
      exact lw_taken hd hL31 hi hv K0
    rcases Decidable.em (zgX g i &&& 63 = (40 : Int32)) with s33_40 | s33_40
    · refine zTabAt s33_40 d_L_law_33 (by decide) (by decide) (off := 1362) (by decide) (q := 1395) (by decide) ?_
      refine zSub [0, 1, 2, 3] rfl ?_
      exact lw_count hd hL31 hi hv K0
    refine zTabOut d_L_law_33 (by have := lv_neT s33_0 (a := 0) (by decide); have := lv_neT s33_1 (a := 1) (by decide); have := lv_neT s33_2 (a := 2) (by decide); have := lv_neT s33_3 (a := 3) (by decide); have := lv_neT s33_4 (a := 4) (by decide); have := lv_neT s33_5 (a := 5) (by decide); have := lv_neT s33_6 (a := 6) (by decide); have := lv_neT s33_7 (a := 7) (by decide); have := lv_neT s33_8 (a := 8) (by decide); have := lv_neT s33_9 (a := 9) (by decide); have := lv_neT s33_10 (a := 10) (by decide); have := lv_neT s33_11 (a := 11) (by decide); have := lv_neT s33_12 (a := 12) (by decide); have := lv_neT s33_13 (a := 13) (by decide); have := lv_neT s33_14 (a := 14) (by decide); have := lv_neT s33_15 (a := 15) (by decide); have := lv_neT s33_16 (a := 16) (by decide); have := lv_neT s33_17 (a := 17) (by decide); have := lv_neT s33_18 (a := 18) (by decide); have := lv_neT s33_19 (a := 19) (by decide); have := lv_neT s33_20 (a := 20) (by decide); have := lv_neT s33_21 (a := 21) (by decide); have := lv_neT s33_22 (a := 22) (by decide); have := lv_neT s33_23 (a := 23) (by decide); have := lv_neT s33_24 (a := 24) (by decide); have := lv_neT s33_25 (a := 25) (by decide); have := lv_neT s33_26 (a := 26) (by decide); have := lv_neT s33_27 (a := 27) (by decide); have := lv_neT s33_28 (a := 28) (by decide); have := lv_neT s33_29 (a := 29) (by decide); have := lv_neT s33_30 (a := 30) (by decide); have := lv_neT s33_31 (a := 31) (by decide); have := lv_neT s33_32 (a := 32) (by decide); have := lv_neT s33_33 (a := 33) (by decide); have := lv_neT s33_34 (a := 34) (by decide); have := lv_neT s33_35 (a := 35) (by decide); have := lv_neT s33_36 (a := 36) (by decide); have := lv_neT s33_37 (a := 37) (by decide); have := lv_neT s33_38 (a := 38) (by decide); have := lv_neT s33_39 (a := 39) (by decide); have := lv_neT s33_40 (a := 40) (by decide); omega) (q := 1418) (by decide) ?_
    refine zSub [0, 1, 2, 3] rfl ?_
    exact K0 _ _ _ _ _ hv
theorem lw_loop (hd : 100 ≤ d) (hL31 : zgL g < 2 ^ 31) (hQ : ∀ I L h h2 o, zIv I L h h2 → Q (some (.int 1)) (zU I L (h, h2, o))) : ∀ n i, zgL g ≤ i + n → i ≤ zgL g → ∀ I L h h2 o, zIv I L h h2 → zLA g l d I L (h, h2, o) 18 [(3, .int (nI i)), (0, .ref 1004), (1, .ref 0), (2, .ref 64)] Q := by
  intro n
  induction n with
  | zero =>
    intro i h1 h3 I L h h2 o hv
    exact lw_turn hd hL31 (by omega) hQ hv (fun hi => by omega)
  | succ n ih =>
    intro i h1 h3 I L h h2 o hv
    refine lw_turn hd hL31 (by omega) hQ hv (fun hi => ?_)
    intro I L h h2 o hv
    refine zIinc d_L_law_1418 rfl (nI_add i 6) (by decide) rfl (q := 1421) rfl ?_
    refine zGoto d_L_law_1421 (q := 18) (by decide) ?_
    refine zSub [0, 1, 2, 3] rfl ?_
    exact ih (i + 6) (by omega) (by omega) _ _ _ _ _ hv
end S93

