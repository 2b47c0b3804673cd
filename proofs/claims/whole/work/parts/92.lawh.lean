/-! THE LAW: ACT, FLING -/
theorem zAct_ex {V : Nat → Nat → Int32} {nb : Nat} (hb : V 38 2 = nI nb) (h50 : nb ≤ 50) (hkd : zKd V nb) (b a x : Int32) : ∃ (v : Int32) (t : List Int32), t.length < 900 ∧ ((0 ≤ zKo V b ∧ 0 ≤ a ∧ a < 4) → zDo 12 (zKo V b) (zKo V b) a b x = some (v, t)) ∧ (¬ (0 ≤ zKo V b ∧ 0 ≤ a ∧ a < 4) → v = 0 ∧ t = []) := by
  by_cases c : 0 ≤ zKo V b ∧ 0 ≤ a ∧ a < 4
  · by_cases hbr : 0 ≤ b ∧ b < nI nb
    · obtain ⟨q, k, hq, hk, eb, e1, e2⟩ := zKo_in hb h50 hkd hbr
      obtain ⟨j, hj, ej⟩ := zn1 (x := a) (n := 4) (by decide) c.2.1 c.2.2
      exact ⟨(yAct (nI k) (nI j) b x).1, (yAct (nI k) (nI j) b x).2, yAct_len, fun _ => by rw [e2, ej]; exact yAct_at hk hj, fun z => absurd c z⟩
    · have e := zKo_out hb hbr
      rw [e] at c
      exact absurd c.1 (by decide)
  · exact ⟨0, [], by decide, fun z => absurd z c, fun _ => ⟨rfl, rfl⟩⟩
theorem zIc_act {V W : Nat → Nat → Int32} {h h2 ns nt nh nb dn al m ks : Nat} {pg : Option (List zLine)} (v : ∀ a, a ≠ 38 → a ≠ 40 → W a = V a) (w : W 38 2 = V 38 2) (k : zIc V h h2 ns nt nh nb dn al m ks pg) : zIc W h h2 ns nt nh nb dn al m ks pg := by
  obtain ⟨⟨a1, a2⟩, ⟨b1, b2, b3, b4⟩, ⟨c1, c2, c3, c4, c5⟩, ⟨d1, d2, d3⟩, ⟨e1, e2, e3⟩, f1, g1⟩ := k
  refine ⟨⟨zSky_of (v 1 (by decide) (by decide)) a1, zBd_ex (fun a ha => v a (by omega) (by omega)) a2⟩, ⟨w.trans b1, b2, ?_, fun q hq => by rw [v (42 + 2 * q) (by omega) (by omega)]; exact b4 q hq⟩,
    ⟨by rw [v 31 (by decide) (by decide)]; exact c1, by rw [v 31 (by decide) (by decide)]; exact c2, c3, c4, ?_⟩, ⟨by rw [v 29 (by decide) (by decide)]; exact d1, d2, by rw [v 30 (by decide) (by decide)]; exact d3⟩, ⟨by rw [v 36 (by decide) (by decide)]; exact e1, e2, by rw [v 36 (by decide) (by decide)]; exact e3⟩, f1,
    zLawOk_ex (v h (by omega) (by omega)) (v (h + 1) (by omega) (by omega)) (v (h + 2) (by omega) (by omega)) g1⟩
  · intro i hi; rw [v 39 (by decide) (by decide)]; exact b3 i hi
  · intro i hi; rw [v 32 (by decide) (by decide), v 33 (by decide) (by decide), v 34 (by decide) (by decide), v 35 (by decide) (by decide)]; exact c5 i hi
theorem zTrI_ne {V : Nat → Nat → Int32} {x : Int32} {t : List Int32} {r a : Nat} (h1 : a ≠ 38) (h2 : a ≠ 40) : zTrI (zup V 38 (zup (V 38) 3 x)) r t a = V a := by
  unfold zTrI; rw [zup_ne h1, zup_ne h2, zup_ne h1]
theorem zFlI_ne {V : Nat → Nat → Int32} {s t a : Nat} {x z : Int32} (h : a < 7 ∨ 15 < a) : zFlI V s t x z a = V a := by
  unfold zFlI zGoOn
  rw [zup_ne (by omega), zup_ne (by omega), zup_ne (by omega), zup_ne (by omega), zup_ne (by omega), zup_ne (by omega)]
theorem zFlI_ex {V W : Nat → Nat → Int32} {s t a : Nat} {x z : Int32} (h : ∀ a, a ≤ 15 → W a = V a) (ha : W a = V a) : zFlI W s t x z a = zFlI V s t x z a := by
  have e7 := h 7 (by decide)
  have e10 := h 10 (by decide)
  have e12 := h 12 (by decide)
  have e14 := h 14 (by decide)
  have e15 := h 15 (by decide)
  simp [zFlI, zGoOn, zup, e7, e10, e12, e14, e15, ha]
theorem zMay11 (z : Int32) : zMay (nI 11) z := by
  refine ⟨by decide, ?_, ?_⟩
  · show (-2147483648 : Int32) ≤ z
    rw [Int32.le_iff_toInt_le]
    exact Int32.le_toInt z
  · show z ≤ (2147483647 : Int32)
    rw [Int32.le_iff_toInt_le]
    exact Int32.toInt_le z
theorem zIc_fling {V : Nat → Nat → Int32} {h h2 ns nt nh nb dn al m ks s t : Nat} {pg : Option (List zLine)} {x z : Int32} (k : zIc V h h2 ns nt nh nb dn al m ks pg) (hs : s < ns) (ht : t < nt) (hx : zMay (nI 4) x) : zIc (zFlI V s t x z) h h2 ns nt nh nb dn al m ks pg := by
  have hB := k.1.2
  have b1 : zBd (zup V 14 (zup (V 14) 0 z)) ns nt nh := zBd_put (j := 11) hB (by decide) (fun i hi => by
    by_cases e : i = 0
    · rw [e, zup_eq]; exact zMay11 z
    · rw [zup_ne e]; exact hB.1 11 i (by decide) hi) (fun e => by omega)
  have b2 : zBd (zup (zup V 14 (zup (V 14) 0 z)) 7 (zup ((zup V 14 (zup (V 14) 0 z)) 7) s x)) ns nt nh := zBd_num (j := 4) b1 (by decide) hs hx
  have t7 : zMay (nI 7) (V 10 t) := hB.1 7 t (by decide) ht
  have t1 : (0 : Int32) ≤ V 10 t := by have q : (1 : Int32) ≤ V 10 t := t7.2.1; grind
  have t2 : V 10 t ≤ 999 := by have q : V 10 t ≤ (9 : Int32) := t7.2.2; grind
  unfold zFlI
  dsimp only
  refine zIc_go (zIc_b15 k (fun a ha => ?_) (zBd_15 (zBd_15 b2))) ⟨t1, t2⟩
  rw [zup_ne (by omega), zup_ne (by omega), zup_ne (by omega), zup_ne (by omega)]
section S92
variable {g : zG} {l : Launch} {d i h h2 : Nat} {I : Nat → Nat → Int32} {L : Nat → Nat → Int64} {o : Option Nat} {Q : Option Value → zW → Prop}
theorem lw_act (hd : 100 ≤ d) (hL31 : zgL g < 2 ^ 31) (hi : i + 6 ≤ zgL g) (hv : zIv I L h h2) (K0 : zLwK g l d i Q) : zLA g l d I L (h, h2, o) 1050 [(3, .int (nI i)), (0, .ref 1004), (1, .ref 0), (2, .ref 64)] Q := by
  obtain ⟨ns, nt, nh, nb, dn, al, m, ks, pg, hc, hM⟩ := id hv
  obtain ⟨v, t, ht, hv1, hv0⟩ := zAct_ex hc.2.1.1 hc.2.1.2.1 hc.2.1.2.2.1 (zgX g (i + 1)) (zgX g (i + 2)) (zgX g (i + 3))
  have c9 := zIc_act (W := zTrI (zup I 38 (zup (I 38) 3 0)) 0 t) (fun a h1 h2 => zTrI_ne h1 h2) rfl hc
  refine zAloadN d_L_law_1050 rfl rfl (q := 1051) rfl ?_
  refine zAloadN d_L_law_1051 rfl rfl (q := 1052) rfl ?_
  refine zIloadN d_L_law_1052 rfl rfl (q := 1053) rfl ?_
  refine zIconst d_L_law_1053 (v := 1) ic_1 (q := 1054) rfl ?_
  refine zIadd d_L_law_1054 (q := 1055) rfl ?_
  refine zSld d_L_law_1055 (nI_add i 1) (by omega) hL31 (q := 1056) rfl ?_
  refine zAloadN d_L_law_1056 rfl rfl (q := 1057) rfl ?_
  refine zIloadN d_L_law_1057 rfl rfl (q := 1058) rfl ?_
  refine zIconst d_L_law_1058 (v := 2) ic_2 (q := 1059) rfl ?_
  refine zIadd d_L_law_1059 (q := 1060) rfl ?_
  refine zSld d_L_law_1060 (nI_add i 2) (by omega) hL31 (q := 1061) rfl ?_
  refine zAloadN d_L_law_1061 rfl rfl (q := 1062) rfl ?_
  refine zIloadN d_L_law_1062 rfl rfl (q := 1063) rfl ?_
  refine zIconst d_L_law_1063 (v := 3) ic_3 (q := 1064) rfl ?_
  refine zIadd d_L_law_1064 (q := 1065) rfl ?_
  refine zSld d_L_law_1065 (nI_add i 3) (by omega) hL31 (q := 1066) rfl ?_
  refine zCallVX d_L_law_1066 ml_L_147 k_X11_act ki_X11_act ks_X11_act (sp_X11_act (d := d - 1) (by omega) hc.2.1.1 hc.2.1.2.1 ht hv1 hv0) rfl rfl sh_0 (by decide) rfl (by decide) (Nat.le_of_ble_eq_true rfl) (by decide) (by omega) zns0 (q := 1069) rfl (fun x w' hw' => ?_)
  obtain ⟨ex, rfl⟩ := hw'
  refine zAloadN d_L_law_1069 rfl rfl (q := 1070) rfl ?_
  refine zAloadN d_L_law_1070 rfl rfl (q := 1071) rfl ?_
  refine zIloadN d_L_law_1071 rfl rfl (q := 1072) rfl ?_
  refine zIconst d_L_law_1072 (v := 1) ic_1 (q := 1073) rfl ?_
  refine zIadd d_L_law_1073 (q := 1074) rfl ?_
  refine zSld d_L_law_1074 (nI_add i 1) (by omega) hL31 (q := 1075) rfl ?_
  refine zAloadN d_L_law_1075 rfl rfl (q := 1076) rfl ?_
  refine zIloadN d_L_law_1076 rfl rfl (q := 1077) rfl ?_
  refine zIconst d_L_law_1077 (v := 2) ic_2 (q := 1078) rfl ?_
  refine zIadd d_L_law_1078 (q := 1079) rfl ?_
  refine zSld d_L_law_1079 (nI_add i 2) (by omega) hL31 (q := 1080) rfl ?_
  refine zAloadN d_L_law_1080 rfl rfl (q := 1081) rfl ?_
  refine zIloadN d_L_law_1081 rfl rfl (q := 1082) rfl ?_
  refine zIconst d_L_law_1082 (v := 3) ic_3 (q := 1083) rfl ?_
  refine zIadd d_L_law_1083 (q := 1084) rfl ?_
  refine zSld d_L_law_1084 (nI_add i 3) (by omega) hL31 (q := 1085) rfl ?_
  refine zCallVX d_L_law_1085 ml_L_150 k_X12_act ki_X12_act ks_X12_act (sp_X12_act (V := I) (K := L) (pg := pg) (d := d - 1) (by omega) (zMd_low (fun a ha ↦ zTrI_ne (by omega) (by omega)) rfl hM) hc.2.1.1 hc.2.1.2.1 hc.2.1.2.2.1 ht hv1 hv0) rfl rfl sh_64 (by decide) rfl (by decide) (Nat.le_of_ble_eq_true rfl) (by decide) (by omega) zns0 (q := 1088) rfl (fun y w' hw' => ?_)
  obtain ⟨ey, J, rfl, hf, hD⟩ := hw'
  refine zIcmp_eq d_L_law_1088 (tgt := 1418) (q := 1091) (by decide) rfl (fun h1088 => ?_) (fun h => absurd (ex.trans ey.symm) h)
  refine zSub [0, 1, 2, 3] rfl ?_
  exact K0 _ _ _ _ _ (zIv_next c9 (fun a ha => hf a (by have := c9.2.2.2.2.2.1; omega)) hD (fun _ _ _ => rfl))
theorem lw_fling (hd : 100 ≤ d) (hL31 : zgL g < 2 ^ 31) (hi : i + 6 ≤ zgL g) (hv : zIv I L h h2) (K0 : zLwK g l d i Q) : zLA g l d I L (h, h2, o) 883 [(3, .int (nI i)), (0, .ref 1004), (1, .ref 0), (2, .ref 64)] Q := by
  obtain ⟨ns, nt, nh, nb, dn, al, m, ks, pg, hc, hM⟩ := id hv
  have hh : h = 54 ∨ h = 59 := by have := hc.2.2.2.2.2.1; omega
  by_cases k1 : zThr ns nt (zgX g (i + 1))
  · obtain ⟨s, t, hs, ht, q1, q2⟩ := zThr_of hc.1.1.2.1 hc.1.1.2.2.1 k1
    by_cases k2 : I 7 s = 0 ∧ I 8 s = 0
    ·
      refine zAloadN d_L_law_883 rfl rfl (q := 884) rfl ?_
      refine zAloadN d_L_law_884 rfl rfl (q := 885) rfl ?_
      refine zIloadN d_L_law_885 rfl rfl (q := 886) rfl ?_
      refine zIconst d_L_law_886 (v := 1) ic_1 (q := 887) rfl ?_
      refine zIadd d_L_law_887 (q := 888) rfl ?_
      refine zSld d_L_law_888 (nI_add i 1) (by omega) hL31 (q := 889) rfl ?_
      refine zCallVX d_L_law_889 ml_L_111 k_X11_fling ki_X11_fling ks_X11_fling (sp_X11_fling (d := d - 1) (by omega) hc.1.1 hh hc.2.2.2.2.2.2 k1 hs ht q1 q2) rfl rfl sh_0 (by decide) rfl (by decide) (Nat.le_of_ble_eq_true rfl) (by decide) (by omega) zns0 (q := 892) rfl (fun x w' hw' => ?_)
      obtain ⟨-, rfl, K, hK, rfl⟩ := hw'.resolve_left (fun z => z.1 k2)
      have hx : zMay (nI 4) (bi (zDraw (zNx (I 14 0)) < zOdds pg (zEn I s t (I 12 0)))) := by unfold bi; split <;> decide
      have c9 := zIc_fling (z := zNx (I 14 0)) hc hs ht hx
      refine zAloadN d_L_law_892 rfl rfl (q := 893) rfl ?_
      refine zAloadN d_L_law_893 rfl rfl (q := 894) rfl ?_
      refine zIloadN d_L_law_894 rfl rfl (q := 895) rfl ?_
      refine zIconst d_L_law_895 (v := 1) ic_1 (q := 896) rfl ?_
      refine zIadd d_L_law_896 (q := 897) rfl ?_
      refine zSld d_L_law_897 (nI_add i 1) (by omega) hL31 (q := 898) rfl ?_
      refine zCallVX d_L_law_898 ml_L_114 k_X12_fling ki_X12_fling ks_X12_fling (sp_X12_fling (V := I) (K := L) (pg := pg) (d := d - 1) (by omega) (zMd_low (fun a ha ↦ (zFlI_ne (by omega)).trans (hK a (by omega) (by omega))) rfl hM) hc.1.1 hc.1.2 k1 hs ht q1 q2) rfl rfl sh_64 (by decide) rfl (by decide) (Nat.le_of_ble_eq_true rfl) (by decide) (by omega) zns0 (q := 901) rfl (fun x w' hw' => ?_)
      obtain ⟨-, rfl, J, rfl, hf, hD⟩ := hw'.resolve_left (fun z => z.1 k2)
      refine zIcmp_eq d_L_law_901 (tgt := 1418) (q := 904) (by decide) rfl (fun h901 => ?_) (fun h => absurd rfl h)
      refine zSub [0, 1, 2, 3] rfl ?_
      exact K0 _ _ _ _ _ (zIv_next c9 (fun a ha => (hf a (by omega)).trans (zFlI_ex (fun b hb => hK b (by omega) (by omega)) (hK a (by omega) (by omega)))) hD (fun _ _ _ => rfl))
    ·
      refine zAloadN d_L_law_883 rfl rfl (q := 884) rfl ?_
      refine zAloadN d_L_law_884 rfl rfl (q := 885) rfl ?_
      refine zIloadN d_L_law_885 rfl rfl (q := 886) rfl ?_
      refine zIconst d_L_law_886 (v := 1) ic_1 (q := 887) rfl ?_
      refine zIadd d_L_law_887 (q := 888) rfl ?_
      refine zSld d_L_law_888 (nI_add i 1) (by omega) hL31 (q := 889) rfl ?_
      refine zCallVX d_L_law_889 ml_L_111 k_X11_fling ki_X11_fling ks_X11_fling (sp_X11_fling (d := d - 1) (by omega) hc.1.1 hh hc.2.2.2.2.2.2 k1 hs ht q1 q2) rfl rfl sh_0 (by decide) rfl (by decide) (Nat.le_of_ble_eq_true rfl) (by decide) (by omega) zns0 (q := 892) rfl (fun x w' hw' => ?_)
      obtain ⟨-, rfl, rfl⟩ := hw'.resolve_right (fun z => k2 z.1)
      refine zAloadN d_L_law_892 rfl rfl (q := 893) rfl ?_
      refine zAloadN d_L_law_893 rfl rfl (q := 894) rfl ?_
      refine zIloadN d_L_law_894 rfl rfl (q := 895) rfl ?_
      refine zIconst d_L_law_895 (v := 1) ic_1 (q := 896) rfl ?_
      refine zIadd d_L_law_896 (q := 897) rfl ?_
      refine zSld d_L_law_897 (nI_add i 1) (by omega) hL31 (q := 898) rfl ?_
      refine zCallVX d_L_law_898 ml_L_114 k_X12_fling ki_X12_fling ks_X12_fling (sp_X12_fling (V := I) (K := L) (pg := pg) (d := d - 1) (by omega) hM hc.1.1 hc.1.2 k1 hs ht q1 q2) rfl rfl sh_64 (by decide) rfl (by decide) (Nat.le_of_ble_eq_true rfl) (by decide) (by omega) zns0 (q := 901) rfl (fun x w' hw' => ?_)
      obtain ⟨-, rfl, rfl⟩ := hw'.resolve_right (fun z => k2 z.1)
      refine zIcmp_eq d_L_law_901 (tgt := 1418) (q := 904) (by decide) rfl (fun h901 => ?_) (fun h => absurd rfl h)
      refine zSub [0, 1, 2, 3] rfl ?_
      exact K0 _ _ _ _ _ hv
  ·
    refine zAloadN d_L_law_883 rfl rfl (q := 884) rfl ?_
    refine zAloadN d_L_law_884 rfl rfl (q := 885) rfl ?_
    refine zIloadN d_L_law_885 rfl rfl (q := 886) rfl ?_
    refine zIconst d_L_law_886 (v := 1) ic_1 (q := 887) rfl ?_
    refine zIadd d_L_law_887 (q := 888) rfl ?_
    refine zSld d_L_law_888 (nI_add i 1) (by omega) hL31 (q := 889) rfl ?_
    refine zCallVP d_L_law_889 ml_L_111 k_X11_fling ki_X11_fling ks_X11_fling (sp_X11_fling0 (d := d - 1) (by omega) hc.1.1 k1) rfl rfl sh_0 (by decide) rfl (by decide) (Nat.le_of_ble_eq_true rfl) (by decide) (by omega) zns0 (q := 892) rfl ?_
    refine zAloadN d_L_law_892 rfl rfl (q := 893) rfl ?_
    refine zAloadN d_L_law_893 rfl rfl (q := 894) rfl ?_
    refine zIloadN d_L_law_894 rfl rfl (q := 895) rfl ?_
    refine zIconst d_L_law_895 (v := 1) ic_1 (q := 896) rfl ?_
    refine zIadd d_L_law_896 (q := 897) rfl ?_
    refine zSld d_L_law_897 (nI_add i 1) (by omega) hL31 (q := 898) rfl ?_
    refine zCallVP d_L_law_898 ml_L_114 k_X12_fling ki_X12_fling ks_X12_fling (sp_X12_fling0 (V := I) (d := d - 1) (by omega) hM.1 hc.1.1 k1) rfl rfl sh_64 (by decide) rfl (by decide) (Nat.le_of_ble_eq_true rfl) (by decide) (by omega) zns0 (q := 901) rfl ?_
    refine zIcmp_eq d_L_law_901 (tgt := 1418) (q := 904) (by decide) rfl (fun h901 => ?_) (fun h => absurd rfl h)
    refine zSub [0, 1, 2, 3] rfl ?_
    exact K0 _ _ _ _ _ hv
end S92

