/-! THE LAW: WHAT IS ADDED -/
theorem zBd_thr {V : Nat → Nat → Int32} {ns nt nh : Nat} {f : Int32} (hB : zBd V ns nt nh) (h0 : zMay 6 f) : zBd (zThrI V nt f) ns (nt + 1) nh := by
  refine ⟨fun j k hj hk => ?_, fun k hk => hB.2 k hk⟩
  · match j, hj with
    | 0, _ => exact hB.1 0 k (by decide) hk
    | 1, _ => exact hB.1 1 k (by decide) hk
    | 2, _ => exact hB.1 2 k (by decide) hk
    | 3, _ => exact hB.1 3 k (by decide) hk
    | 4, _ => exact hB.1 4 k (by decide) hk
    | 5, _ => exact hB.1 5 k (by decide) hk
    | 6, _ =>
      have hk : k < nt + 1 := hk
      show zMay (nI 6) (zup (V 9) nt f k)
      by_cases e : k = nt
      · rw [e, zup_eq]; exact h0
      · rw [zup_ne e]; exact hB.1 6 k (by decide) (show k < nt by omega)
    | 7, _ =>
      have hk : k < nt + 1 := hk
      show zMay (nI 7) (zup (V 10) nt 3 k)
      by_cases e : k = nt
      · rw [e, zup_eq]; decide
      · rw [zup_ne e]; exact hB.1 7 k (by decide) (show k < nt by omega)
    | 8, _ => exact hB.1 8 k (by decide) hk
    | 9, _ => exact hB.1 9 k (by decide) hk
    | 10, _ => exact hB.1 10 k (by decide) hk
    | 11, _ => exact hB.1 11 k (by decide) hk
theorem zBd_shp {V : Nat → Nat → Int32} {ns nt nh : Nat} {f : Int32} (hB : zBd V ns nt nh) (h0 : zMay 8 f) : zBd (zShpI V nh f) ns nt (nh + 1) := by
  refine ⟨fun j k hj hk => ?_, fun k hk => hB.2 k hk⟩
  · match j, hj with
    | 0, _ => exact hB.1 0 k (by decide) hk
    | 1, _ => exact hB.1 1 k (by decide) hk
    | 2, _ => exact hB.1 2 k (by decide) hk
    | 3, _ => exact hB.1 3 k (by decide) hk
    | 4, _ => exact hB.1 4 k (by decide) hk
    | 5, _ => exact hB.1 5 k (by decide) hk
    | 6, _ => exact hB.1 6 k (by decide) hk
    | 7, _ => exact hB.1 7 k (by decide) hk
    | 8, _ =>
      have hk : k < nh + 1 := hk
      show zMay (nI 8) (zup (V 11) nh f k)
      by_cases e : k = nh
      · rw [e, zup_eq]; exact h0
      · rw [zup_ne e]; exact hB.1 8 k (by decide) (show k < nh by omega)
    | 9, _ => exact hB.1 9 k (by decide) hk
    | 10, _ => exact hB.1 10 k (by decide) hk
    | 11, _ => exact hB.1 11 k (by decide) hk
theorem zIc_thr {V : Nat → Nat → Int32} {h h2 ns nt nh nb dn al m ks : Nat} {pg : Option (List zLine)} {f : Int32} (k : zIc V h h2 ns nt nh nb dn al m ks pg) (n4 : nt < 4) (h0 : zMay 6 f) : zIc (zThrI V nt f) h h2 ns (nt + 1) nh nb dn al m ks pg := by
  obtain ⟨⟨a1, a2⟩, ⟨b1, b2, b3, b4⟩, ⟨c1, c2, c3, c4, c5⟩, ⟨d1, d2, d3⟩, ⟨e1, e2, e3⟩, f1, g1⟩ := k
  have hh : 41 < h := by omega
  have v : ∀ a, 41 < a → (zThrI V nt f) a = V a := fun a ha => by unfold zThrI; rw [zup_ne (by omega), zup_ne (by omega), zup_ne (by omega)]
  refine ⟨⟨⟨⟨a1.1.1, rfl, a1.1.2.2⟩, a1.2.1, n4, a1.2.2.2⟩, zBd_thr a2 h0⟩, ⟨b1, b2, b3, fun q hq => by rw [v (42 + 2 * q) (by omega)]; exact b4 q hq⟩, ⟨c1, c2, c3, c4, ?_⟩, ⟨d1, d2, d3⟩, ⟨e1, e2, e3⟩, f1,
    zLawOk_ex (v h hh) (v (h + 1) (by omega)) (v (h + 2) (by omega)) g1⟩
  intro i hi
  obtain ⟨j, k, q1, q2, q3⟩ := c5 i hi
  exact ⟨j, k, q1, Nat.lt_of_lt_of_le q2 (zHold_mono (Nat.le_refl _) (Nat.le_succ _) (Nat.le_refl _)), q3⟩
theorem zIc_shp {V : Nat → Nat → Int32} {h h2 ns nt nh nb dn al m ks : Nat} {pg : Option (List zLine)} {f : Int32} (k : zIc V h h2 ns nt nh nb dn al m ks pg) (n6 : nh < 6) (h0 : zMay 8 f) : zIc (zShpI V nh f) h h2 ns nt (nh + 1) nb dn al m ks pg := by
  obtain ⟨⟨a1, a2⟩, ⟨b1, b2, b3, b4⟩, ⟨c1, c2, c3, c4, c5⟩, ⟨d1, d2, d3⟩, ⟨e1, e2, e3⟩, f1, g1⟩ := k
  have hh : 41 < h := by omega
  have v : ∀ a, 41 < a → (zShpI V nh f) a = V a := fun a ha => by unfold zShpI; rw [zup_ne (by omega), zup_ne (by omega)]
  refine ⟨⟨⟨⟨a1.1.1, a1.1.2.1, rfl⟩, a1.2.1, a1.2.2.1, n6⟩, zBd_shp a2 h0⟩, ⟨b1, b2, b3, fun q hq => by rw [v (42 + 2 * q) (by omega)]; exact b4 q hq⟩, ⟨c1, c2, c3, c4, ?_⟩, ⟨d1, d2, d3⟩, ⟨e1, e2, e3⟩, f1,
    zLawOk_ex (v h hh) (v (h + 1) (by omega)) (v (h + 2) (by omega)) g1⟩
  intro i hi
  obtain ⟨j, k, q1, q2, q3⟩ := c5 i hi
  exact ⟨j, k, q1, Nat.lt_of_lt_of_le q2 (zHold_mono (Nat.le_refl _) (Nat.le_refl _) (Nat.le_succ _)), q3⟩
theorem zIc_body {V : Nat → Nat → Int32} {h h2 ns nt nh nb dn al m ks : Nat} {pg : Option (List zLine)} {f : Int32} (k : zIc V h h2 ns nt nh nb dn al m ks pg) (n50 : nb < 50) (h0 : 0 ≤ f ∧ f < 8) : zIc (zup (zup V 39 (zup (V 39) nb f)) 38 (zup (V 38) 2 (nI (nb + 1)))) h h2 ns nt nh (nb + 1) dn al m ks pg := by
  obtain ⟨⟨a1, a2⟩, ⟨b1, b2, b3, b4⟩, ⟨c1, c2, c3, c4, c5⟩, ⟨d1, d2, d3⟩, ⟨e1, e2, e3⟩, f1, g1⟩ := k
  have hh : 41 < h := by omega
  have v : ∀ a, 41 < a → (zup (zup V 39 (zup (V 39) nb f)) 38 (zup (V 38) 2 (nI (nb + 1)))) a = V a := fun a ha => by rw [zup_ne (by omega), zup_ne (by omega)]
  refine ⟨⟨a1, zBd_ex (fun a ha => by rw [zup_ne (by omega), zup_ne (by omega)]) a2⟩, ⟨rfl, n50, fun i hi => ?_, fun q hq => ?_⟩, ⟨c1, c2, c3, c4, c5⟩, ⟨d1, d2, d3⟩, ⟨e1, e2, e3⟩, f1,
    zLawOk_ex (v h hh) (v (h + 1) (by omega)) (v (h + 2) (by omega)) g1⟩
  · show ∃ k, k < 8 ∧ zup (V 39) nb f i = nI k
    by_cases e : i = nb
    · rw [e, zup_eq]
      obtain ⟨k, hk, ek⟩ := zn1 (x := f) (n := 8) (by decide) h0.1 h0.2
      exact ⟨k, hk, ek⟩
    · rw [zup_ne e]; exact b3 i (by omega)
  · rw [v (42 + 2 * q) (by omega)]
    obtain ⟨q1, q2⟩ := b4 q hq
    refine ⟨?_, q2⟩
    rcases q1 with q1 | q1 | ⟨q1, p, q3, q4⟩
    · exact Or.inl q1
    · exact Or.inr (Or.inl q1)
    · exact Or.inr (Or.inr ⟨q1, p, by omega, q4⟩)
section S79
variable {g : zG} {l : Launch} {d i h h2 : Nat} {I : Nat → Nat → Int32} {L : Nat → Nat → Int64} {o : Option Nat} {Q : Option Value → zW → Prop}
theorem lw_thrower (hd : 100 ≤ d) (hL31 : zgL g < 2 ^ 31) (hi : i + 6 ≤ zgL g) (hv : zIv I L h h2) (K0 : zLwK g l d i Q) : zLA g l d I L (h, h2, o) 278 [(3, .int (nI i)), (0, .ref 1004), (1, .ref 0), (2, .ref 64)] Q := by
  obtain ⟨ns, nt, nh, nb, dn, al, m, ks, pg, hc, hM⟩ := id hv
  by_cases k1 : zMay 6 (zgX g (i + 1))
  · by_cases k2 : 4 ≤ nt
    ·
      refine zAloadN d_L_law_278 rfl rfl (q := 279) rfl ?_
      refine zAloadN d_L_law_279 rfl rfl (q := 280) rfl ?_
      refine zIloadN d_L_law_280 rfl rfl (q := 281) rfl ?_
      refine zIconst d_L_law_281 (v := 1) ic_1 (q := 282) rfl ?_
      refine zIadd d_L_law_282 (q := 283) rfl ?_
      refine zSld d_L_law_283 (nI_add i 1) (by omega) hL31 (q := 284) rfl ?_
      refine zCallVX d_L_law_284 ml_L_23 k_X11_thrower ki_X11_thrower ks_X11_thrower (sp_X11_thrower (d := d - 1) (by omega) hc.1.1) rfl rfl sh_0 (by decide) rfl (by decide) (Nat.le_of_ble_eq_true rfl) (by decide) (by omega) zns0 (q := 287) rfl (fun x w' hw' => ?_)
      obtain ⟨-, -, rfl, rfl⟩ := (hw'.resolve_left (fun z => z.1 k1)).resolve_right (fun z => absurd z.2.1 (by omega))
      refine zAloadN d_L_law_287 rfl rfl (q := 288) rfl ?_
      refine zAloadN d_L_law_288 rfl rfl (q := 289) rfl ?_
      refine zIloadN d_L_law_289 rfl rfl (q := 290) rfl ?_
      refine zIconst d_L_law_290 (v := 1) ic_1 (q := 291) rfl ?_
      refine zIadd d_L_law_291 (q := 292) rfl ?_
      refine zSld d_L_law_292 (nI_add i 1) (by omega) hL31 (q := 293) rfl ?_
      refine zCallVX d_L_law_293 ml_L_26 k_X12_thrower ki_X12_thrower ks_X12_thrower (sp_X12_thrower (V := I) (K := L) (pg := pg) (d := d - 1) (by omega) hM hc.1.1) rfl rfl sh_64 (by decide) rfl (by decide) (Nat.le_of_ble_eq_true rfl) (by decide) (by omega) zns0 (q := 296) rfl (fun x w' hw' => ?_)
      obtain ⟨-, -, rfl, rfl⟩ := (hw'.resolve_left (fun z => z.1 k1)).resolve_right (fun z => absurd z.2.1 (by omega))
      refine zIcmp_eq d_L_law_296 (tgt := 1418) (q := 299) (by decide) rfl (fun h296 => ?_) (fun h => absurd rfl h)
      refine zSub [0, 1, 2, 3] rfl ?_
      exact K0 _ _ _ _ _ hv
    ·
      refine zAloadN d_L_law_278 rfl rfl (q := 279) rfl ?_
      refine zAloadN d_L_law_279 rfl rfl (q := 280) rfl ?_
      refine zIloadN d_L_law_280 rfl rfl (q := 281) rfl ?_
      refine zIconst d_L_law_281 (v := 1) ic_1 (q := 282) rfl ?_
      refine zIadd d_L_law_282 (q := 283) rfl ?_
      refine zSld d_L_law_283 (nI_add i 1) (by omega) hL31 (q := 284) rfl ?_
      refine zCallVX d_L_law_284 ml_L_23 k_X11_thrower ki_X11_thrower ks_X11_thrower (sp_X11_thrower (d := d - 1) (by omega) hc.1.1) rfl rfl sh_0 (by decide) rfl (by decide) (Nat.le_of_ble_eq_true rfl) (by decide) (by omega) zns0 (q := 287) rfl (fun x w' hw' => ?_)
      obtain ⟨-, -, rfl, rfl⟩ := (hw'.resolve_left (fun z => z.1 k1)).resolve_left (fun z => absurd z.2.1 (by omega))
      have c9 := zIc_thr (f := zgX g (i + 1)) hc (by omega) k1
      refine zAloadN d_L_law_287 rfl rfl (q := 288) rfl ?_
      refine zAloadN d_L_law_288 rfl rfl (q := 289) rfl ?_
      refine zIloadN d_L_law_289 rfl rfl (q := 290) rfl ?_
      refine zIconst d_L_law_290 (v := 1) ic_1 (q := 291) rfl ?_
      refine zIadd d_L_law_291 (q := 292) rfl ?_
      refine zSld d_L_law_292 (nI_add i 1) (by omega) hL31 (q := 293) rfl ?_
      refine zCallVX d_L_law_293 ml_L_26 k_X12_thrower ki_X12_thrower ks_X12_thrower (sp_X12_thrower (V := I) (K := L) (pg := pg) (d := d - 1) (by omega) (zMd_low (fun a ha ↦ by unfold zThrI; rw [zup_ne (by omega), zup_ne (by omega), zup_ne (by omega)]) rfl hM) hc.1.1) rfl rfl sh_64 (by decide) rfl (by decide) (Nat.le_of_ble_eq_true rfl) (by decide) (by omega) zns0 (q := 296) rfl (fun x w' hw' => ?_)
      obtain ⟨-, -, rfl, J, rfl, hf, hD⟩ := (hw'.resolve_left (fun z => z.1 k1)).resolve_left (fun z => absurd z.2.1 (by omega))
      refine zIcmp_eq d_L_law_296 (tgt := 1418) (q := 299) (by decide) rfl (fun h296 => ?_) (fun h => absurd rfl h)
      refine zSub [0, 1, 2, 3] rfl ?_
      exact K0 _ _ _ _ _ (zIv_next c9 (fun a ha => hf a (by have := c9.2.2.2.2.2.1; omega)) hD (fun _ _ _ => rfl))
  ·
    refine zAloadN d_L_law_278 rfl rfl (q := 279) rfl ?_
    refine zAloadN d_L_law_279 rfl rfl (q := 280) rfl ?_
    refine zIloadN d_L_law_280 rfl rfl (q := 281) rfl ?_
    refine zIconst d_L_law_281 (v := 1) ic_1 (q := 282) rfl ?_
    refine zIadd d_L_law_282 (q := 283) rfl ?_
    refine zSld d_L_law_283 (nI_add i 1) (by omega) hL31 (q := 284) rfl ?_
    refine zCallVX d_L_law_284 ml_L_23 k_X11_thrower ki_X11_thrower ks_X11_thrower (sp_X11_thrower (d := d - 1) (by omega) hc.1.1) rfl rfl sh_0 (by decide) rfl (by decide) (Nat.le_of_ble_eq_true rfl) (by decide) (by omega) zns0 (q := 287) rfl (fun x w' hw' => ?_)
    obtain ⟨-, rfl, rfl⟩ := hw'.resolve_right (fun z => by rcases z with z | z <;> exact k1 z.1)
    refine zAloadN d_L_law_287 rfl rfl (q := 288) rfl ?_
    refine zAloadN d_L_law_288 rfl rfl (q := 289) rfl ?_
    refine zIloadN d_L_law_289 rfl rfl (q := 290) rfl ?_
    refine zIconst d_L_law_290 (v := 1) ic_1 (q := 291) rfl ?_
    refine zIadd d_L_law_291 (q := 292) rfl ?_
    refine zSld d_L_law_292 (nI_add i 1) (by omega) hL31 (q := 293) rfl ?_
    refine zCallVX d_L_law_293 ml_L_26 k_X12_thrower ki_X12_thrower ks_X12_thrower (sp_X12_thrower (V := I) (K := L) (pg := pg) (d := d - 1) (by omega) hM hc.1.1) rfl rfl sh_64 (by decide) rfl (by decide) (Nat.le_of_ble_eq_true rfl) (by decide) (by omega) zns0 (q := 296) rfl (fun x w' hw' => ?_)
    obtain ⟨-, rfl, rfl⟩ := hw'.resolve_right (fun z => by rcases z with z | z <;> exact k1 z.1)
    refine zIcmp_eq d_L_law_296 (tgt := 1418) (q := 299) (by decide) rfl (fun h296 => ?_) (fun h => absurd rfl h)
    refine zSub [0, 1, 2, 3] rfl ?_
    exact K0 _ _ _ _ _ hv
theorem lw_ship (hd : 100 ≤ d) (hL31 : zgL g < 2 ^ 31) (hi : i + 6 ≤ zgL g) (hv : zIv I L h h2) (K0 : zLwK g l d i Q) : zLA g l d I L (h, h2, o) 301 [(3, .int (nI i)), (0, .ref 1004), (1, .ref 0), (2, .ref 64)] Q := by
  obtain ⟨ns, nt, nh, nb, dn, al, m, ks, pg, hc, hM⟩ := id hv
  by_cases k1 : zMay 8 (zgX g (i + 1))
  · by_cases k2 : 6 ≤ nh
    ·
      refine zAloadN d_L_law_301 rfl rfl (q := 302) rfl ?_
      refine zAloadN d_L_law_302 rfl rfl (q := 303) rfl ?_
      refine zIloadN d_L_law_303 rfl rfl (q := 304) rfl ?_
      refine zIconst d_L_law_304 (v := 1) ic_1 (q := 305) rfl ?_
      refine zIadd d_L_law_305 (q := 306) rfl ?_
      refine zSld d_L_law_306 (nI_add i 1) (by omega) hL31 (q := 307) rfl ?_
      refine zCallVX d_L_law_307 ml_L_27 k_X11_ship ki_X11_ship ks_X11_ship (sp_X11_ship (d := d - 1) (by omega) hc.1.1) rfl rfl sh_0 (by decide) rfl (by decide) (Nat.le_of_ble_eq_true rfl) (by decide) (by omega) zns0 (q := 310) rfl (fun x w' hw' => ?_)
      obtain ⟨-, -, rfl, rfl⟩ := (hw'.resolve_left (fun z => z.1 k1)).resolve_right (fun z => absurd z.2.1 (by omega))
      refine zAloadN d_L_law_310 rfl rfl (q := 311) rfl ?_
      refine zAloadN d_L_law_311 rfl rfl (q := 312) rfl ?_
      refine zIloadN d_L_law_312 rfl rfl (q := 313) rfl ?_
      refine zIconst d_L_law_313 (v := 1) ic_1 (q := 314) rfl ?_
      refine zIadd d_L_law_314 (q := 315) rfl ?_
      refine zSld d_L_law_315 (nI_add i 1) (by omega) hL31 (q := 316) rfl ?_
      refine zCallVX d_L_law_316 ml_L_30 k_X12_ship ki_X12_ship ks_X12_ship (sp_X12_ship (V := I) (K := L) (pg := pg) (d := d - 1) (by omega) hM hc.1.1) rfl rfl sh_64 (by decide) rfl (by decide) (Nat.le_of_ble_eq_true rfl) (by decide) (by omega) zns0 (q := 319) rfl (fun x w' hw' => ?_)
      obtain ⟨-, -, rfl, rfl⟩ := (hw'.resolve_left (fun z => z.1 k1)).resolve_right (fun z => absurd z.2.1 (by omega))
      refine zIcmp_eq d_L_law_319 (tgt := 1418) (q := 322) (by decide) rfl (fun h319 => ?_) (fun h => absurd rfl h)
      refine zSub [0, 1, 2, 3] rfl ?_
      exact K0 _ _ _ _ _ hv
    ·
      refine zAloadN d_L_law_301 rfl rfl (q := 302) rfl ?_
      refine zAloadN d_L_law_302 rfl rfl (q := 303) rfl ?_
      refine zIloadN d_L_law_303 rfl rfl (q := 304) rfl ?_
      refine zIconst d_L_law_304 (v := 1) ic_1 (q := 305) rfl ?_
      refine zIadd d_L_law_305 (q := 306) rfl ?_
      refine zSld d_L_law_306 (nI_add i 1) (by omega) hL31 (q := 307) rfl ?_
      refine zCallVX d_L_law_307 ml_L_27 k_X11_ship ki_X11_ship ks_X11_ship (sp_X11_ship (d := d - 1) (by omega) hc.1.1) rfl rfl sh_0 (by decide) rfl (by decide) (Nat.le_of_ble_eq_true rfl) (by decide) (by omega) zns0 (q := 310) rfl (fun x w' hw' => ?_)
      obtain ⟨-, -, rfl, rfl⟩ := (hw'.resolve_left (fun z => z.1 k1)).resolve_left (fun z => absurd z.2.1 (by omega))
      have c9 := zIc_shp (f := zgX g (i + 1)) hc (by omega) k1
      refine zAloadN d_L_law_310 rfl rfl (q := 311) rfl ?_
      refine zAloadN d_L_law_311 rfl rfl (q := 312) rfl ?_
      refine zIloadN d_L_law_312 rfl rfl (q := 313) rfl ?_
      refine zIconst d_L_law_313 (v := 1) ic_1 (q := 314) rfl ?_
      refine zIadd d_L_law_314 (q := 315) rfl ?_
      refine zSld d_L_law_315 (nI_add i 1) (by omega) hL31 (q := 316) rfl ?_
      refine zCallVX d_L_law_316 ml_L_30 k_X12_ship ki_X12_ship ks_X12_ship (sp_X12_ship (V := I) (K := L) (pg := pg) (d := d - 1) (by omega) (zMd_low (fun a ha ↦ by unfold zShpI; rw [zup_ne (by omega), zup_ne (by omega)]) rfl hM) hc.1.1) rfl rfl sh_64 (by decide) rfl (by decide) (Nat.le_of_ble_eq_true rfl) (by decide) (by omega) zns0 (q := 319) rfl (fun x w' hw' => ?_)
      obtain ⟨-, -, rfl, J, rfl, hf, hD⟩ := (hw'.resolve_left (fun z => z.1 k1)).resolve_left (fun z => absurd z.2.1 (by omega))
      refine zIcmp_eq d_L_law_319 (tgt := 1418) (q := 322) (by decide) rfl (fun h319 => ?_) (fun h => absurd rfl h)
      refine zSub [0, 1, 2, 3] rfl ?_
      exact K0 _ _ _ _ _ (zIv_next c9 (fun a ha => hf a (by have := c9.2.2.2.2.2.1; omega)) hD (fun _ _ _ => rfl))
  ·
    refine zAloadN d_L_law_301 rfl rfl (q := 302) rfl ?_
    refine zAloadN d_L_law_302 rfl rfl (q := 303) rfl ?_
    refine zIloadN d_L_law_303 rfl rfl (q := 304) rfl ?_
    refine zIconst d_L_law_304 (v := 1) ic_1 (q := 305) rfl ?_
    refine zIadd d_L_law_305 (q := 306) rfl ?_
    refine zSld d_L_law_306 (nI_add i 1) (by omega) hL31 (q := 307) rfl ?_
    refine zCallVX d_L_law_307 ml_L_27 k_X11_ship ki_X11_ship ks_X11_ship (sp_X11_ship (d := d - 1) (by omega) hc.1.1) rfl rfl sh_0 (by decide) rfl (by decide) (Nat.le_of_ble_eq_true rfl) (by decide) (by omega) zns0 (q := 310) rfl (fun x w' hw' => ?_)
    obtain ⟨-, rfl, rfl⟩ := hw'.resolve_right (fun z => by rcases z with z | z <;> exact k1 z.1)
    refine zAloadN d_L_law_310 rfl rfl (q := 311) rfl ?_
    refine zAloadN d_L_law_311 rfl rfl (q := 312) rfl ?_
    refine zIloadN d_L_law_312 rfl rfl (q := 313) rfl ?_
    refine zIconst d_L_law_313 (v := 1) ic_1 (q := 314) rfl ?_
    refine zIadd d_L_law_314 (q := 315) rfl ?_
    refine zSld d_L_law_315 (nI_add i 1) (by omega) hL31 (q := 316) rfl ?_
    refine zCallVX d_L_law_316 ml_L_30 k_X12_ship ki_X12_ship ks_X12_ship (sp_X12_ship (V := I) (K := L) (pg := pg) (d := d - 1) (by omega) hM hc.1.1) rfl rfl sh_64 (by decide) rfl (by decide) (Nat.le_of_ble_eq_true rfl) (by decide) (by omega) zns0 (q := 319) rfl (fun x w' hw' => ?_)
    obtain ⟨-, rfl, rfl⟩ := hw'.resolve_right (fun z => by rcases z with z | z <;> exact k1 z.1)
    refine zIcmp_eq d_L_law_319 (tgt := 1418) (q := 322) (by decide) rfl (fun h319 => ?_) (fun h => absurd rfl h)
    refine zSub [0, 1, 2, 3] rfl ?_
    exact K0 _ _ _ _ _ hv
theorem lw_body (hd : 100 ≤ d) (hL31 : zgL g < 2 ^ 31) (hi : i + 6 ≤ zgL g) (hv : zIv I L h h2) (K0 : zLwK g l d i Q) : zLA g l d I L (h, h2, o) 1027 [(3, .int (nI i)), (0, .ref 1004), (1, .ref 0), (2, .ref 64)] Q := by
  obtain ⟨ns, nt, nh, nb, dn, al, m, ks, pg, hc, hM⟩ := id hv
  by_cases k1 : 0 ≤ zgX g (i + 1) ∧ zgX g (i + 1) < 8
  · by_cases k2 : nb = 50
    ·
      refine zAloadN d_L_law_1027 rfl rfl (q := 1028) rfl ?_
      refine zAloadN d_L_law_1028 rfl rfl (q := 1029) rfl ?_
      refine zIloadN d_L_law_1029 rfl rfl (q := 1030) rfl ?_
      refine zIconst d_L_law_1030 (v := 1) ic_1 (q := 1031) rfl ?_
      refine zIadd d_L_law_1031 (q := 1032) rfl ?_
      refine zSld d_L_law_1032 (nI_add i 1) (by omega) hL31 (q := 1033) rfl ?_
      refine zCallVX d_L_law_1033 ml_L_143 k_X11_body ki_X11_body ks_X11_body (sp_X11_body (d := d - 1) (by omega) hc.2.1.1 hc.2.1.2.1) rfl rfl sh_0 (by decide) rfl (by decide) (Nat.le_of_ble_eq_true rfl) (by decide) (by omega) zns0 (q := 1036) rfl (fun x w' hw' => ?_)
      obtain ⟨-, -, rfl, rfl⟩ := (hw'.resolve_left (fun z => z.1 k1)).resolve_right (fun z => absurd z.2.1 (by omega))
      refine zAloadN d_L_law_1036 rfl rfl (q := 1037) rfl ?_
      refine zAloadN d_L_law_1037 rfl rfl (q := 1038) rfl ?_
      refine zIloadN d_L_law_1038 rfl rfl (q := 1039) rfl ?_
      refine zIconst d_L_law_1039 (v := 1) ic_1 (q := 1040) rfl ?_
      refine zIadd d_L_law_1040 (q := 1041) rfl ?_
      refine zSld d_L_law_1041 (nI_add i 1) (by omega) hL31 (q := 1042) rfl ?_
      refine zCallVX d_L_law_1042 ml_L_146 k_X12_body ki_X12_body ks_X12_body (sp_X12_body (V := I) (K := L) (pg := pg) (d := d - 1) (by omega) hM hc.2.1.1 hc.2.1.2.1) rfl rfl sh_64 (by decide) rfl (by decide) (Nat.le_of_ble_eq_true rfl) (by decide) (by omega) zns0 (q := 1045) rfl (fun x w' hw' => ?_)
      obtain ⟨-, -, rfl, rfl⟩ := (hw'.resolve_left (fun z => z.1 k1)).resolve_right (fun z => absurd z.2.1 (by omega))
      refine zIcmp_eq d_L_law_1045 (tgt := 1418) (q := 1048) (by decide) rfl (fun h1045 => ?_) (fun h => absurd rfl h)
      refine zSub [0, 1, 2, 3] rfl ?_
      exact K0 _ _ _ _ _ hv
    ·
      refine zAloadN d_L_law_1027 rfl rfl (q := 1028) rfl ?_
      refine zAloadN d_L_law_1028 rfl rfl (q := 1029) rfl ?_
      refine zIloadN d_L_law_1029 rfl rfl (q := 1030) rfl ?_
      refine zIconst d_L_law_1030 (v := 1) ic_1 (q := 1031) rfl ?_
      refine zIadd d_L_law_1031 (q := 1032) rfl ?_
      refine zSld d_L_law_1032 (nI_add i 1) (by omega) hL31 (q := 1033) rfl ?_
      refine zCallVX d_L_law_1033 ml_L_143 k_X11_body ki_X11_body ks_X11_body (sp_X11_body (d := d - 1) (by omega) hc.2.1.1 hc.2.1.2.1) rfl rfl sh_0 (by decide) rfl (by decide) (Nat.le_of_ble_eq_true rfl) (by decide) (by omega) zns0 (q := 1036) rfl (fun x w' hw' => ?_)
      obtain ⟨-, -, rfl, rfl⟩ := (hw'.resolve_left (fun z => z.1 k1)).resolve_left (fun z => absurd z.2.1 (by omega))
      have c9 := zIc_body (f := zgX g (i + 1)) hc (by have := hc.2.1.2.1; omega) k1
      refine zAloadN d_L_law_1036 rfl rfl (q := 1037) rfl ?_
      refine zAloadN d_L_law_1037 rfl rfl (q := 1038) rfl ?_
      refine zIloadN d_L_law_1038 rfl rfl (q := 1039) rfl ?_
      refine zIconst d_L_law_1039 (v := 1) ic_1 (q := 1040) rfl ?_
      refine zIadd d_L_law_1040 (q := 1041) rfl ?_
      refine zSld d_L_law_1041 (nI_add i 1) (by omega) hL31 (q := 1042) rfl ?_
      refine zCallVX d_L_law_1042 ml_L_146 k_X12_body ki_X12_body ks_X12_body (sp_X12_body (V := I) (K := L) (pg := pg) (d := d - 1) (by omega) (zMd_low (fun a ha ↦ by rw [zup_ne (by omega), zup_ne (by omega)]) rfl hM) hc.2.1.1 hc.2.1.2.1) rfl rfl sh_64 (by decide) rfl (by decide) (Nat.le_of_ble_eq_true rfl) (by decide) (by omega) zns0 (q := 1045) rfl (fun x w' hw' => ?_)
      obtain ⟨-, -, rfl, J, rfl, hf, hD⟩ := (hw'.resolve_left (fun z => z.1 k1)).resolve_left (fun z => absurd z.2.1 (by omega))
      refine zIcmp_eq d_L_law_1045 (tgt := 1418) (q := 1048) (by decide) rfl (fun h1045 => ?_) (fun h => absurd rfl h)
      refine zSub [0, 1, 2, 3] rfl ?_
      exact K0 _ _ _ _ _ (zIv_next c9 (fun a ha => hf a (by have := c9.2.2.2.2.2.1; omega)) hD (fun _ _ _ => rfl))
  ·
    refine zAloadN d_L_law_1027 rfl rfl (q := 1028) rfl ?_
    refine zAloadN d_L_law_1028 rfl rfl (q := 1029) rfl ?_
    refine zIloadN d_L_law_1029 rfl rfl (q := 1030) rfl ?_
    refine zIconst d_L_law_1030 (v := 1) ic_1 (q := 1031) rfl ?_
    refine zIadd d_L_law_1031 (q := 1032) rfl ?_
    refine zSld d_L_law_1032 (nI_add i 1) (by omega) hL31 (q := 1033) rfl ?_
    refine zCallVX d_L_law_1033 ml_L_143 k_X11_body ki_X11_body ks_X11_body (sp_X11_body (d := d - 1) (by omega) hc.2.1.1 hc.2.1.2.1) rfl rfl sh_0 (by decide) rfl (by decide) (Nat.le_of_ble_eq_true rfl) (by decide) (by omega) zns0 (q := 1036) rfl (fun x w' hw' => ?_)
    obtain ⟨-, rfl, rfl⟩ := hw'.resolve_right (fun z => by rcases z with z | z <;> exact k1 z.1)
    refine zAloadN d_L_law_1036 rfl rfl (q := 1037) rfl ?_
    refine zAloadN d_L_law_1037 rfl rfl (q := 1038) rfl ?_
    refine zIloadN d_L_law_1038 rfl rfl (q := 1039) rfl ?_
    refine zIconst d_L_law_1039 (v := 1) ic_1 (q := 1040) rfl ?_
    refine zIadd d_L_law_1040 (q := 1041) rfl ?_
    refine zSld d_L_law_1041 (nI_add i 1) (by omega) hL31 (q := 1042) rfl ?_
    refine zCallVX d_L_law_1042 ml_L_146 k_X12_body ki_X12_body ks_X12_body (sp_X12_body (V := I) (K := L) (pg := pg) (d := d - 1) (by omega) hM hc.2.1.1 hc.2.1.2.1) rfl rfl sh_64 (by decide) rfl (by decide) (Nat.le_of_ble_eq_true rfl) (by decide) (by omega) zns0 (q := 1045) rfl (fun x w' hw' => ?_)
    obtain ⟨-, rfl, rfl⟩ := hw'.resolve_right (fun z => by rcases z with z | z <;> exact k1 z.1)
    refine zIcmp_eq d_L_law_1045 (tgt := 1418) (q := 1048) (by decide) rfl (fun h1045 => ?_) (fun h => absurd rfl h)
    refine zSub [0, 1, 2, 3] rfl ?_
    exact K0 _ _ _ _ _ hv
end S79

