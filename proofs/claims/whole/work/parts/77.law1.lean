/-! THE LAW, STEP BY STEP -/
/-- from the end of a step on -/
def zLwK (g : zG) (l : Launch) (d i : Nat) (Q : Option Value → zW → Prop) : Prop :=
  ∀ I L h h2 o, zIv I L h h2 → zLA g l d I L (h, h2, o) 1418 [(3, .int (nI i)), (0, .ref 1004), (1, .ref 0), (2, .ref 64)] Q
theorem zHold_mono {ns ns' nt nt' nh nh' : Nat} {w : Int32} (h1 : ns ≤ ns') (h2 : nt ≤ nt') (h3 : nh ≤ nh') : zHold ns nt nh w ≤ zHold ns' nt' nh' w := by
  unfold zHold
  split
  · exact Nat.le_refl _
  · split
    · exact h1
    · split
      · exact h2
      · split
        · exact h3
        · exact Nat.le_refl _
theorem zBd_star {V : Nat → Nat → Int32} {ns nt nh : Nat} {c b s : Int32} (hB : zBd V ns nt nh) (h0 : zMay 0 c) (h1 : zMay 1 b) (h2 : zMay 2 s) : zBd (zStarI V ns c b s) (ns + 1) nt nh := by
  refine ⟨fun j k hj hk => ?_, fun k hk => hB.2 k (by omega)⟩
  · match j, hj with
    | 0, _ =>
      have hk : k < ns + 1 := hk
      show zMay (nI 0) (zup (V 3) ns c k)
      by_cases e : k = ns
      · rw [e, zup_eq]; exact h0
      · rw [zup_ne e]; exact hB.1 0 k (by decide) (show k < ns by omega)
    | 1, _ =>
      have hk : k < ns + 1 := hk
      show zMay (nI 1) (zup (V 4) ns b k)
      by_cases e : k = ns
      · rw [e, zup_eq]; exact h1
      · rw [zup_ne e]; exact hB.1 1 k (by decide) (show k < ns by omega)
    | 2, _ =>
      have hk : k < ns + 1 := hk
      show zMay (nI 2) (zup (V 5) ns s k)
      by_cases e : k = ns
      · rw [e, zup_eq]; exact h2
      · rw [zup_ne e]; exact hB.1 2 k (by decide) (show k < ns by omega)
    | 3, _ =>
      have hk : k < ns + 1 := hk
      show zMay (nI 3) (zup (V 6) ns 5 k)
      by_cases e : k = ns
      · rw [e, zup_eq]; decide
      · rw [zup_ne e]; exact hB.1 3 k (by decide) (show k < ns by omega)
    | 4, _ =>
      have hk : k < ns + 1 := hk
      show zMay (nI 4) (V 7 k)
      by_cases e : k = ns
      · rw [e, (hB.2 ns (Nat.le_refl _)).1]; decide
      · exact hB.1 4 k (by decide) (show k < ns by omega)
    | 5, _ =>
      have hk : k < ns + 1 := hk
      show zMay (nI 5) (V 8 k)
      by_cases e : k = ns
      · rw [e, (hB.2 ns (Nat.le_refl _)).2]; decide
      · exact hB.1 5 k (by decide) (show k < ns by omega)
    | 6, _ => exact hB.1 6 k (by decide) hk
    | 7, _ => exact hB.1 7 k (by decide) hk
    | 8, _ => exact hB.1 8 k (by decide) hk
    | 9, _ => exact hB.1 9 k (by decide) hk
    | 10, _ => exact hB.1 10 k (by decide) hk
    | 11, _ => exact hB.1 11 k (by decide) hk
theorem zIc_star {V : Nat → Nat → Int32} {h h2 ns nt nh nb dn al m ks : Nat} {pg : Option (List zLine)} {c b s : Int32} (k : zIc V h h2 ns nt nh nb dn al m ks pg) (n10 : ns < 10) (h0 : zMay 0 c) (h1 : zMay 1 b) (h3 : zMay 2 s) : zIc (zStarI V ns c b s) h h2 (ns + 1) nt nh nb dn al m ks pg := by
  obtain ⟨⟨a1, a2⟩, ⟨b1, b2, b3, b4⟩, ⟨c1, c2, c3, c4, c5⟩, ⟨d1, d2, d3⟩, ⟨e1, e2, e3⟩, f1, g1⟩ := k
  have hh : 14 < h := by omega
  have v : ∀ a, 14 < a → zStarI V ns c b s a = V a := fun a ha => zStarI_ne ha
  refine ⟨⟨⟨⟨rfl, a1.1.2.1, a1.1.2.2⟩, n10, a1.2.2⟩, zBd_star a2 h0 h1 h3⟩, ⟨b1, b2, b3, fun q hq => by rw [v (42 + 2 * q) (by omega)]; exact b4 q hq⟩, ⟨c1, c2, c3, c4, ?_⟩, ⟨d1, d2, d3⟩, ⟨e1, Nat.le_succ_of_le e2, e3⟩, f1,
    zLawOk_ex (v h hh) (v (h + 1) (by omega)) (v (h + 2) (by omega)) g1⟩
  intro i hi
  obtain ⟨j, k, q1, q2, q3⟩ := c5 i hi
  exact ⟨j, k, q1, Nat.lt_of_lt_of_le q2 (zHold_mono (Nat.le_succ _) (Nat.le_refl _) (Nat.le_refl _)), q3⟩
theorem zIc_add {V : Nat → Nat → Int32} {h h2 ns nt nh nb dn al m ks : Nat} {pg : Option (List zLine)} {c b s : Int32} (k : zIc V h h2 ns nt nh nb dn al m ks pg) : ∃ n1, zIc (zAdd V ns c b s).2 h h2 n1 nt nh nb dn al m ks pg ∧ ∀ a, 64 ≤ a → (zAdd V ns c b s).2 a = V a := by
  by_cases z : 0 ≤ (zAdd V ns c b s).1
  · obtain ⟨a1, a2, a3, a4⟩ := zAdd_1 k.1.1 z
    have y := (zAdd_iff k.1.1.2.1).mp z
    rw [a2]
    exact ⟨ns + 1, zIc_star k a1 y.1 ⟨by decide, y.2.1⟩ ⟨by decide, y.2.2.1⟩, fun a ha => a4 a (by omega)⟩
  · rw [zAdd_0 z]
    exact ⟨ns, k, fun _ _ => rfl⟩
section S76
variable {g : zG} {l : Launch} {d i h h2 : Nat} {I : Nat → Nat → Int32} {L : Nat → Nat → Int64} {o : Option Nat} {Q : Option Value → zW → Prop}
theorem lw_led (hd : 100 ≤ d) (hL31 : zgL g < 2 ^ 31) (hi : i + 6 ≤ zgL g) (hv : zIv I L h h2) (K0 : zLwK g l d i Q) : zLA g l d I L (h, h2, o) 952 [(3, .int (nI i)), (0, .ref 1004), (1, .ref 0), (2, .ref 64)] Q := by
  obtain ⟨ns, nt, nh, nb, dn, al, m, ks, pg, hc, hM⟩ := id hv
  refine zAloadN d_L_law_952 rfl rfl (q := 953) rfl ?_
  refine zAloadN d_L_law_953 rfl rfl (q := 954) rfl ?_
  refine zIloadN d_L_law_954 rfl rfl (q := 955) rfl ?_
  refine zIconst d_L_law_955 (v := 1) ic_1 (q := 956) rfl ?_
  refine zIadd d_L_law_956 (q := 957) rfl ?_
  refine zSld d_L_law_957 (nI_add i 1) (by omega) hL31 (q := 958) rfl ?_
  refine zCallVP d_L_law_958 ml_L_123 k_X11_led ki_X11_led ks_X11_led (sp_X11_led (d := d - 1) (by omega)) rfl rfl sh_0 (by decide) rfl (by decide) (Nat.le_of_ble_eq_true rfl) (by decide) (by omega) zns0 (q := 961) rfl ?_
  refine zAloadN d_L_law_961 rfl rfl (q := 962) rfl ?_
  refine zAloadN d_L_law_962 rfl rfl (q := 963) rfl ?_
  refine zIloadN d_L_law_963 rfl rfl (q := 964) rfl ?_
  refine zIconst d_L_law_964 (v := 1) ic_1 (q := 965) rfl ?_
  refine zIadd d_L_law_965 (q := 966) rfl ?_
  refine zSld d_L_law_966 (nI_add i 1) (by omega) hL31 (q := 967) rfl ?_
  refine zCallVP d_L_law_967 ml_L_126 k_X12_led ki_X12_led ks_X12_led (sp_X12_led (V := I) (d := d - 1) (by omega) hM.1) rfl rfl sh_64 (by decide) rfl (by decide) (Nat.le_of_ble_eq_true rfl) (by decide) (by omega) zns0 (q := 970) rfl ?_
  refine zIcmp_eq d_L_law_970 (tgt := 1418) (q := 973) (by decide) rfl (fun h970 => ?_) (fun h => absurd rfl h)
  refine zSub [0, 1, 2, 3] rfl ?_
  exact K0 _ _ _ _ _ hv
theorem lw_of (hd : 100 ≤ d) (hL31 : zgL g < 2 ^ 31) (hi : i + 6 ≤ zgL g) (hv : zIv I L h h2) (K0 : zLwK g l d i Q) : zLA g l d I L (h, h2, o) 367 [(3, .int (nI i)), (0, .ref 1004), (1, .ref 0), (2, .ref 64)] Q := by
  obtain ⟨ns, nt, nh, nb, dn, al, m, ks, pg, hc, hM⟩ := id hv
  refine zAloadN d_L_law_367 rfl rfl (q := 368) rfl ?_
  refine zAloadN d_L_law_368 rfl rfl (q := 369) rfl ?_
  refine zIloadN d_L_law_369 rfl rfl (q := 370) rfl ?_
  refine zIconst d_L_law_370 (v := 1) ic_1 (q := 371) rfl ?_
  refine zIadd d_L_law_371 (q := 372) rfl ?_
  refine zSld d_L_law_372 (nI_add i 1) (by omega) hL31 (q := 373) rfl ?_
  refine zAloadN d_L_law_373 rfl rfl (q := 374) rfl ?_
  refine zIloadN d_L_law_374 rfl rfl (q := 375) rfl ?_
  refine zIconst d_L_law_375 (v := 2) ic_2 (q := 376) rfl ?_
  refine zIadd d_L_law_376 (q := 377) rfl ?_
  refine zSld d_L_law_377 (nI_add i 2) (by omega) hL31 (q := 378) rfl ?_
  refine zCallVP d_L_law_378 ml_L_35 k_X11_of ki_X11_of ks_X11_of (sp_X11_of (d := d - 1) (by omega) hc.1.1) rfl rfl sh_0 (by decide) rfl (by decide) (Nat.le_of_ble_eq_true rfl) (by decide) (by omega) zns0 (q := 381) rfl ?_
  refine zAloadN d_L_law_381 rfl rfl (q := 382) rfl ?_
  refine zAloadN d_L_law_382 rfl rfl (q := 383) rfl ?_
  refine zIloadN d_L_law_383 rfl rfl (q := 384) rfl ?_
  refine zIconst d_L_law_384 (v := 1) ic_1 (q := 385) rfl ?_
  refine zIadd d_L_law_385 (q := 386) rfl ?_
  refine zSld d_L_law_386 (nI_add i 1) (by omega) hL31 (q := 387) rfl ?_
  refine zAloadN d_L_law_387 rfl rfl (q := 388) rfl ?_
  refine zIloadN d_L_law_388 rfl rfl (q := 389) rfl ?_
  refine zIconst d_L_law_389 (v := 2) ic_2 (q := 390) rfl ?_
  refine zIadd d_L_law_390 (q := 391) rfl ?_
  refine zSld d_L_law_391 (nI_add i 2) (by omega) hL31 (q := 392) rfl ?_
  refine zCallVP d_L_law_392 ml_L_39 k_X12_of ki_X12_of ks_X12_of (sp_X12_of (V := I) (d := d - 1) (by omega) hM.1 hc.1.1) rfl rfl sh_64 (by decide) rfl (by decide) (Nat.le_of_ble_eq_true rfl) (by decide) (by omega) zns0 (q := 395) rfl ?_
  refine zIcmp_eq d_L_law_395 (tgt := 1418) (q := 398) (by decide) rfl (fun h395 => ?_) (fun h => absurd rfl h)
  refine zSub [0, 1, 2, 3] rfl ?_
  exact K0 _ _ _ _ _ hv
theorem lw_star (hd : 100 ≤ d) (hL31 : zgL g < 2 ^ 31) (hi : i + 6 ≤ zgL g) (hv : zIv I L h h2) (K0 : zLwK g l d i Q) : zLA g l d I L (h, h2, o) 212 [(3, .int (nI i)), (0, .ref 1004), (1, .ref 0), (2, .ref 64)] Q := by
  obtain ⟨ns, nt, nh, nb, dn, al, m, ks, pg, hc, hM⟩ := id hv
  refine zAloadN d_L_law_212 rfl rfl (q := 213) rfl ?_
  refine zAloadN d_L_law_213 rfl rfl (q := 214) rfl ?_
  refine zIloadN d_L_law_214 rfl rfl (q := 215) rfl ?_
  refine zIconst d_L_law_215 (v := 1) ic_1 (q := 216) rfl ?_
  refine zIadd d_L_law_216 (q := 217) rfl ?_
  refine zSld d_L_law_217 (nI_add i 1) (by omega) hL31 (q := 218) rfl ?_
  refine zCallVX d_L_law_218 ml_L_13 k_X11_star ki_X11_star ks_X11_star (sp_X11_star (d := d - 1) (by omega) hc.1.1) rfl rfl sh_0 (by decide) rfl (by decide) (Nat.le_of_ble_eq_true rfl) (by decide) (by omega) zns0 (q := 221) rfl (fun x w' hw' => ?_)
  obtain ⟨rfl, rfl⟩ := hw'
  obtain ⟨n1, c1, v1⟩ := zIc_add (c := zgX g (i + 1)) (b := 5) (s := 5) hc
  refine zAloadN d_L_law_221 rfl rfl (q := 222) rfl ?_
  refine zAloadN d_L_law_222 rfl rfl (q := 223) rfl ?_
  refine zIloadN d_L_law_223 rfl rfl (q := 224) rfl ?_
  refine zIconst d_L_law_224 (v := 1) ic_1 (q := 225) rfl ?_
  refine zIadd d_L_law_225 (q := 226) rfl ?_
  refine zSld d_L_law_226 (nI_add i 1) (by omega) hL31 (q := 227) rfl ?_
  refine zCallVX d_L_law_227 ml_L_17 k_X12_star ki_X12_star ks_X12_star (sp_X12_star (V := I) (K := L) (pg := pg) (d := d - 1) (by omega) (zMd_low v1 rfl hM) hc.1.1) rfl rfl sh_64 (by decide) rfl (by decide) (Nat.le_of_ble_eq_true rfl) (by decide) (by omega) zns0 (q := 230) rfl (fun x w' hw' => ?_)
  obtain ⟨rfl, J, rfl, hf, hD⟩ := hw'
  refine zIcmp_eq d_L_law_230 (tgt := 1418) (q := 233) (by decide) rfl (fun h230 => ?_) (fun h => absurd rfl h)
  refine zSub [0, 1, 2, 3] rfl ?_
  exact K0 _ _ _ _ _ (zIv_next c1 (fun a ha => hf a (by have := c1.2.2.2.2.2.1; omega)) hD (fun _ _ _ => rfl))
end S76

