/-! THE LAW: MEND -/
theorem zIc_set {V : Nat → Nat → Int32} {h h2 ns nt nh nb dn al m ks j q : Nat} {pg : Option (List zLine)} {x : Int32} (k : zIc V h h2 ns nt nh nb dn al m ks pg) (hj : j < 12) (hq : q < zHold ns nt nh (nI j)) (hx : zMay (nI j) x) : zIc (zSetI V ns nt nh (nI j) (nI q) x) h h2 ns nt nh nb dn al m ks pg := by
  refine zIc_bd k (fun a ha => zSetI_ne ha) ?_
  unfold zSetI
  split
  · have hq2 : q < 2 ^ 31 := by
      have h1 := k.1.1.2
      have := zHold_le (w := nI j) h1.1 h1.2.1 h1.2.2
      omega
    rw [zcl_n (by omega), zcl_n hq2]
    exact zBd_num k.1.2 hj hq hx
  · exact k.1.2
theorem zIc_chg {V : Nat → Nat → Int32} {h h2 ns nt nh nb dn al m ks j q : Nat} {pg : Option (List zLine)} {x y : Int32} (k : zIc V h h2 ns nt nh nb dn al m ks pg) (hj : j < 12) (hq : q < zHold ns nt nh (nI j)) (hx : zMay (nI j) x) (hy : zMay (nI j) y) : ∃ dn2 al2, zIc (zChg V dn (nI j) (nI q) x y) h h2 ns nt nh nb dn2 al2 m ks pg := by
  obtain ⟨⟨a1, a2⟩, ⟨b1, b2, b3, b4⟩, ⟨c1, c2, c3, c4, c5⟩, ⟨d1, d2, d3⟩, ⟨e1, e2, e3⟩, f1, g1⟩ := k
  have put : ∀ (W : Nat → Nat → Int32) (n : Nat), n < 40 → (∀ a, a < 31 ∨ 35 < a → W a = V a) → zBc W ns nt nh n → zIc (zChgW W n (nI j) (nI q) x y) h h2 ns nt nh nb (n + 1) (n + 1) m ks pg := by
    intro W n hn hW hc
    have w : ∀ a, a < 31 ∨ 35 < a → zChgW W n (nI j) (nI q) x y a = V a := fun a ha => by
      unfold zChgW; rw [zup_ne (by omega), zup_ne (by omega), zup_ne (by omega), zup_ne (by omega), zup_ne (by omega)]; exact hW a ha
    refine ⟨⟨zSky_of (w 1 (by omega)) a1, zBd_ex (fun a ha => w a (by omega)) a2⟩, ⟨by rw [w 38 (by omega)]; exact b1, b2, ?_, fun q hq => by rw [w (42 + 2 * q) (by omega)]; exact b4 q hq⟩,
      ⟨rfl, rfl, Nat.le_refl _, by omega, ?_⟩, ⟨by rw [w 29 (by omega)]; exact d1, d2, by rw [w 30 (by omega)]; exact d3⟩, ⟨by rw [w 36 (by omega)]; exact e1, e2, by rw [w 36 (by omega)]; exact e3⟩, f1,
      zLawOk_ex (w h (by omega)) (w (h + 1) (by omega)) (w (h + 2) (by omega)) g1⟩
    · intro i hi; rw [w 39 (by omega)]; exact b3 i hi
    · intro i hi
      show ∃ j2 k2 : Nat, j2 < 12 ∧ k2 < zHold ns nt nh (nI j2) ∧ zup (W 32) n (nI j) i = nI j2 ∧ zup (W 33) n (nI q) i = nI k2 ∧ zMay (nI j2) (zup (W 34) n x i) ∧ zMay (nI j2) (zup (W 35) n y i)
      by_cases e : i = n
      · rw [e, zup_eq, zup_eq, zup_eq, zup_eq]; exact ⟨j, q, hj, hq, rfl, rfl, hx, hy⟩
      · rw [zup_ne e, zup_ne e, zup_ne e, zup_ne e]; exact hc i (by omega)
  unfold zChg
  split
  next e =>
    refine ⟨40, 40, put (zForg V) 39 (by decide) (fun a ha => by unfold zForg; rw [zup_ne (by omega), zup_ne (by omega), zup_ne (by omega), zup_ne (by omega), zup_ne (by omega)]) (fun i hi => ?_)⟩
    obtain ⟨j2, k2, q1, q2, q3, q4, q5, q6⟩ := c5 (1 + i) (by omega)
    have at_ : ∀ f : Nat → Int32, va_cpy f f 1 0 39 i = f (1 + i) := fun f => by unfold va_cpy; rw [if_pos ⟨Nat.zero_le _, by omega⟩, Nat.sub_zero]
    refine ⟨j2, k2, q1, q2, ?_, ?_, ?_, ?_⟩
    · show va_cpy (V 32) (V 32) 1 0 39 i = _; rw [at_]; exact q3
    · show va_cpy (V 33) (V 33) 1 0 39 i = _; rw [at_]; exact q4
    · show zMay _ (va_cpy (V 34) (V 34) 1 0 39 i); rw [at_]; exact q5
    · show zMay _ (va_cpy (V 35) (V 35) 1 0 39 i); rw [at_]; exact q6
  next e => exact ⟨dn + 1, dn + 1, put V dn (by omega) (fun _ _ => rfl) (fun i hi => c5 i (by omega))⟩
section S88
variable {g : zG} {l : Launch} {d i h h2 : Nat} {I : Nat → Nat → Int32} {L : Nat → Nat → Int64} {o : Option Nat} {Q : Option Value → zW → Prop}
theorem lw_mend (hd : 100 ≤ d) (hL31 : zgL g < 2 ^ 31) (hi : i + 6 ≤ zgL g) (hv : zIv I L h h2) (K0 : zLwK g l d i Q) : zLA g l d I L (h, h2, o) 324 [(3, .int (nI i)), (0, .ref 1004), (1, .ref 0), (2, .ref 64)] Q := by
  obtain ⟨ns, nt, nh, nb, dn, al, m, ks, pg, hc, hM⟩ := id hv
  by_cases k1 : (0 ≤ zgX g (i + 1) ∧ zgX g (i + 1) < nI (zHold ns nt nh (zgX g (i + 2)))) ∧ zMay (zgX g (i + 2)) (zgX g (i + 3)) ∧ ¬ (zgX g (i + 2) = 0 ∧ ¬ zfind (I 3) (zgX g (i + 3)) ns 0 = -2 ∧ ¬ zfind (I 3) (zgX g (i + 3)) ns 0 = zgX g (i + 1))
  · by_cases k2 : zGet I ns nt nh (zgX g (i + 2)) (zgX g (i + 1)) = zgX g (i + 3)
    ·
      refine zAloadN d_L_law_324 rfl rfl (q := 325) rfl ?_
      refine zAloadN d_L_law_325 rfl rfl (q := 326) rfl ?_
      refine zIloadN d_L_law_326 rfl rfl (q := 327) rfl ?_
      refine zIconst d_L_law_327 (v := 1) ic_1 (q := 328) rfl ?_
      refine zIadd d_L_law_328 (q := 329) rfl ?_
      refine zSld d_L_law_329 (nI_add i 1) (by omega) hL31 (q := 330) rfl ?_
      refine zAloadN d_L_law_330 rfl rfl (q := 331) rfl ?_
      refine zIloadN d_L_law_331 rfl rfl (q := 332) rfl ?_
      refine zIconst d_L_law_332 (v := 2) ic_2 (q := 333) rfl ?_
      refine zIadd d_L_law_333 (q := 334) rfl ?_
      refine zSld d_L_law_334 (nI_add i 2) (by omega) hL31 (q := 335) rfl ?_
      refine zAloadN d_L_law_335 rfl rfl (q := 336) rfl ?_
      refine zIloadN d_L_law_336 rfl rfl (q := 337) rfl ?_
      refine zIconst d_L_law_337 (v := 3) ic_3 (q := 338) rfl ?_
      refine zIadd d_L_law_338 (q := 339) rfl ?_
      refine zSld d_L_law_339 (nI_add i 3) (by omega) hL31 (q := 340) rfl ?_
      refine zCallVX d_L_law_340 ml_L_31 k_X11_mend ki_X11_mend ks_X11_mend (sp_X11_mend (d := d - 1) (by omega) hc.1.1 hc.2.2.1.1 (by have := hc.2.2.1.2.2; omega)) rfl rfl sh_0 (by decide) rfl (by decide) (Nat.le_of_ble_eq_true rfl) (by decide) (by omega) zns0 (q := 343) rfl (fun x w' hw' => ?_)
      obtain ⟨-, rfl, z⟩ := hw'.resolve_left (fun z => z.1 k1)
      obtain ⟨-, rfl⟩ := z.resolve_right (fun z => z.1 k2)
      refine zAloadN d_L_law_343 rfl rfl (q := 344) rfl ?_
      refine zAloadN d_L_law_344 rfl rfl (q := 345) rfl ?_
      refine zIloadN d_L_law_345 rfl rfl (q := 346) rfl ?_
      refine zIconst d_L_law_346 (v := 1) ic_1 (q := 347) rfl ?_
      refine zIadd d_L_law_347 (q := 348) rfl ?_
      refine zSld d_L_law_348 (nI_add i 1) (by omega) hL31 (q := 349) rfl ?_
      refine zAloadN d_L_law_349 rfl rfl (q := 350) rfl ?_
      refine zIloadN d_L_law_350 rfl rfl (q := 351) rfl ?_
      refine zIconst d_L_law_351 (v := 2) ic_2 (q := 352) rfl ?_
      refine zIadd d_L_law_352 (q := 353) rfl ?_
      refine zSld d_L_law_353 (nI_add i 2) (by omega) hL31 (q := 354) rfl ?_
      refine zAloadN d_L_law_354 rfl rfl (q := 355) rfl ?_
      refine zIloadN d_L_law_355 rfl rfl (q := 356) rfl ?_
      refine zIconst d_L_law_356 (v := 3) ic_3 (q := 357) rfl ?_
      refine zIadd d_L_law_357 (q := 358) rfl ?_
      refine zSld d_L_law_358 (nI_add i 3) (by omega) hL31 (q := 359) rfl ?_
      refine zCallVX d_L_law_359 ml_L_34 k_X12_mend ki_X12_mend ks_X12_mend (sp_X12_mend (V := I) (K := L) (pg := pg) (d := d - 1) (by omega) hM hc.1.1 hc.2.2.1.1 (by have := hc.2.2.1.2.2; omega)) rfl rfl sh_64 (by decide) rfl (by decide) (Nat.le_of_ble_eq_true rfl) (by decide) (by omega) zns0 (q := 362) rfl (fun x w' hw' => ?_)
      obtain ⟨-, rfl, z⟩ := hw'.resolve_left (fun z => z.1 k1)
      obtain ⟨-, rfl⟩ := z.resolve_right (fun z => z.1 k2)
      refine zIcmp_eq d_L_law_362 (tgt := 1418) (q := 365) (by decide) rfl (fun h362 => ?_) (fun h => absurd rfl h)
      refine zSub [0, 1, 2, 3] rfl ?_
      exact K0 _ _ _ _ _ hv
    · obtain ⟨j, q, hj, q10, hq, ew, ek⟩ := zHold_in hc.1.1.2.1 hc.1.1.2.2.1 hc.1.1.2.2.2 k1.1
      have eg : zGet I ns nt nh (zgX g (i + 2)) (zgX g (i + 1)) = I (3 + j) q := by unfold zGet; rw [if_pos k1.1, ew, ek, zcl_n (by omega), zcl_n (by omega)]
      have hq2 : q < zHold ns nt nh (nI j) := by rw [← ew]; exact hq
      have hv2 : zMay (nI j) (zgX g (i + 3)) := by rw [← ew]; exact k1.2.1
      obtain ⟨dn2, al2, c9⟩ := zIc_chg (x := I (3 + j) q) (y := zgX g (i + 3)) (zIc_set hc hj hq2 hv2) hj hq2 (hc.1.2.1 j q hj hq2) hv2
      rw [← ew, ← ek, ← eg] at c9
      refine zAloadN d_L_law_324 rfl rfl (q := 325) rfl ?_
      refine zAloadN d_L_law_325 rfl rfl (q := 326) rfl ?_
      refine zIloadN d_L_law_326 rfl rfl (q := 327) rfl ?_
      refine zIconst d_L_law_327 (v := 1) ic_1 (q := 328) rfl ?_
      refine zIadd d_L_law_328 (q := 329) rfl ?_
      refine zSld d_L_law_329 (nI_add i 1) (by omega) hL31 (q := 330) rfl ?_
      refine zAloadN d_L_law_330 rfl rfl (q := 331) rfl ?_
      refine zIloadN d_L_law_331 rfl rfl (q := 332) rfl ?_
      refine zIconst d_L_law_332 (v := 2) ic_2 (q := 333) rfl ?_
      refine zIadd d_L_law_333 (q := 334) rfl ?_
      refine zSld d_L_law_334 (nI_add i 2) (by omega) hL31 (q := 335) rfl ?_
      refine zAloadN d_L_law_335 rfl rfl (q := 336) rfl ?_
      refine zIloadN d_L_law_336 rfl rfl (q := 337) rfl ?_
      refine zIconst d_L_law_337 (v := 3) ic_3 (q := 338) rfl ?_
      refine zIadd d_L_law_338 (q := 339) rfl ?_
      refine zSld d_L_law_339 (nI_add i 3) (by omega) hL31 (q := 340) rfl ?_
      refine zCallVX d_L_law_340 ml_L_31 k_X11_mend ki_X11_mend ks_X11_mend (sp_X11_mend (d := d - 1) (by omega) hc.1.1 hc.2.2.1.1 (by have := hc.2.2.1.2.2; omega)) rfl rfl sh_0 (by decide) rfl (by decide) (Nat.le_of_ble_eq_true rfl) (by decide) (by omega) zns0 (q := 343) rfl (fun x w' hw' => ?_)
      obtain ⟨-, rfl, z⟩ := hw'.resolve_left (fun z => z.1 k1)
      obtain ⟨-, rfl⟩ := z.resolve_left (fun z => k2 z.1)
      refine zAloadN d_L_law_343 rfl rfl (q := 344) rfl ?_
      refine zAloadN d_L_law_344 rfl rfl (q := 345) rfl ?_
      refine zIloadN d_L_law_345 rfl rfl (q := 346) rfl ?_
      refine zIconst d_L_law_346 (v := 1) ic_1 (q := 347) rfl ?_
      refine zIadd d_L_law_347 (q := 348) rfl ?_
      refine zSld d_L_law_348 (nI_add i 1) (by omega) hL31 (q := 349) rfl ?_
      refine zAloadN d_L_law_349 rfl rfl (q := 350) rfl ?_
      refine zIloadN d_L_law_350 rfl rfl (q := 351) rfl ?_
      refine zIconst d_L_law_351 (v := 2) ic_2 (q := 352) rfl ?_
      refine zIadd d_L_law_352 (q := 353) rfl ?_
      refine zSld d_L_law_353 (nI_add i 2) (by omega) hL31 (q := 354) rfl ?_
      refine zAloadN d_L_law_354 rfl rfl (q := 355) rfl ?_
      refine zIloadN d_L_law_355 rfl rfl (q := 356) rfl ?_
      refine zIconst d_L_law_356 (v := 3) ic_3 (q := 357) rfl ?_
      refine zIadd d_L_law_357 (q := 358) rfl ?_
      refine zSld d_L_law_358 (nI_add i 3) (by omega) hL31 (q := 359) rfl ?_
      refine zCallVX d_L_law_359 ml_L_34 k_X12_mend ki_X12_mend ks_X12_mend (sp_X12_mend (V := I) (K := L) (pg := pg) (d := d - 1) (by omega) (zMd_low (fun a ha ↦ (zChg_ne (by omega)).trans (zSetI_ne (by omega))) rfl hM) hc.1.1 hc.2.2.1.1 (by have := hc.2.2.1.2.2; omega)) rfl rfl sh_64 (by decide) rfl (by decide) (Nat.le_of_ble_eq_true rfl) (by decide) (by omega) zns0 (q := 362) rfl (fun x w' hw' => ?_)
      obtain ⟨-, rfl, z⟩ := hw'.resolve_left (fun z => z.1 k1)
      obtain ⟨-, J, rfl, hf, hD⟩ := z.resolve_left (fun z => k2 z.1)
      refine zIcmp_eq d_L_law_362 (tgt := 1418) (q := 365) (by decide) rfl (fun h362 => ?_) (fun h => absurd rfl h)
      refine zSub [0, 1, 2, 3] rfl ?_
      exact K0 _ _ _ _ _ (zIv_next c9 (fun a ha => hf a (by have := c9.2.2.2.2.2.1; omega)) hD (fun _ _ _ => rfl))
  ·
    refine zAloadN d_L_law_324 rfl rfl (q := 325) rfl ?_
    refine zAloadN d_L_law_325 rfl rfl (q := 326) rfl ?_
    refine zIloadN d_L_law_326 rfl rfl (q := 327) rfl ?_
    refine zIconst d_L_law_327 (v := 1) ic_1 (q := 328) rfl ?_
    refine zIadd d_L_law_328 (q := 329) rfl ?_
    refine zSld d_L_law_329 (nI_add i 1) (by omega) hL31 (q := 330) rfl ?_
    refine zAloadN d_L_law_330 rfl rfl (q := 331) rfl ?_
    refine zIloadN d_L_law_331 rfl rfl (q := 332) rfl ?_
    refine zIconst d_L_law_332 (v := 2) ic_2 (q := 333) rfl ?_
    refine zIadd d_L_law_333 (q := 334) rfl ?_
    refine zSld d_L_law_334 (nI_add i 2) (by omega) hL31 (q := 335) rfl ?_
    refine zAloadN d_L_law_335 rfl rfl (q := 336) rfl ?_
    refine zIloadN d_L_law_336 rfl rfl (q := 337) rfl ?_
    refine zIconst d_L_law_337 (v := 3) ic_3 (q := 338) rfl ?_
    refine zIadd d_L_law_338 (q := 339) rfl ?_
    refine zSld d_L_law_339 (nI_add i 3) (by omega) hL31 (q := 340) rfl ?_
    refine zCallVX d_L_law_340 ml_L_31 k_X11_mend ki_X11_mend ks_X11_mend (sp_X11_mend (d := d - 1) (by omega) hc.1.1 hc.2.2.1.1 (by have := hc.2.2.1.2.2; omega)) rfl rfl sh_0 (by decide) rfl (by decide) (Nat.le_of_ble_eq_true rfl) (by decide) (by omega) zns0 (q := 343) rfl (fun x w' hw' => ?_)
    obtain ⟨-, rfl, rfl⟩ := hw'.resolve_right (fun z => k1 z.1)
    refine zAloadN d_L_law_343 rfl rfl (q := 344) rfl ?_
    refine zAloadN d_L_law_344 rfl rfl (q := 345) rfl ?_
    refine zIloadN d_L_law_345 rfl rfl (q := 346) rfl ?_
    refine zIconst d_L_law_346 (v := 1) ic_1 (q := 347) rfl ?_
    refine zIadd d_L_law_347 (q := 348) rfl ?_
    refine zSld d_L_law_348 (nI_add i 1) (by omega) hL31 (q := 349) rfl ?_
    refine zAloadN d_L_law_349 rfl rfl (q := 350) rfl ?_
    refine zIloadN d_L_law_350 rfl rfl (q := 351) rfl ?_
    refine zIconst d_L_law_351 (v := 2) ic_2 (q := 352) rfl ?_
    refine zIadd d_L_law_352 (q := 353) rfl ?_
    refine zSld d_L_law_353 (nI_add i 2) (by omega) hL31 (q := 354) rfl ?_
    refine zAloadN d_L_law_354 rfl rfl (q := 355) rfl ?_
    refine zIloadN d_L_law_355 rfl rfl (q := 356) rfl ?_
    refine zIconst d_L_law_356 (v := 3) ic_3 (q := 357) rfl ?_
    refine zIadd d_L_law_357 (q := 358) rfl ?_
    refine zSld d_L_law_358 (nI_add i 3) (by omega) hL31 (q := 359) rfl ?_
    refine zCallVX d_L_law_359 ml_L_34 k_X12_mend ki_X12_mend ks_X12_mend (sp_X12_mend (V := I) (K := L) (pg := pg) (d := d - 1) (by omega) hM hc.1.1 hc.2.2.1.1 (by have := hc.2.2.1.2.2; omega)) rfl rfl sh_64 (by decide) rfl (by decide) (Nat.le_of_ble_eq_true rfl) (by decide) (by omega) zns0 (q := 362) rfl (fun x w' hw' => ?_)
    obtain ⟨-, rfl, rfl⟩ := hw'.resolve_right (fun z => k1 z.1)
    refine zIcmp_eq d_L_law_362 (tgt := 1418) (q := 365) (by decide) rfl (fun h362 => ?_) (fun h => absurd rfl h)
    refine zSub [0, 1, 2, 3] rfl ?_
    exact K0 _ _ _ _ _ hv
end S88

