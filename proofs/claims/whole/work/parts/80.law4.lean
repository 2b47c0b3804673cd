/-! THE LAW: A BYTE, A SHELF, AN IMAGE -/
theorem zIc_feed {V : Nat → Nat → Int32} {h h2 ns nt nh nb dn al m ks : Nat} {pg : Option (List zLine)} {f : Int32} (k : zIc V h h2 ns nt nh nb dn al m ks pg) (n : m < 120) (h0 : ¬ (f < 0 ∨ 255 < f)) : zIc (zup (zup V 30 (zup (V 30) m f)) 29 (zup (V 29) 1 (nI (m + 1)))) h h2 ns nt nh nb dn al (m + 1) ks pg := by
  obtain ⟨⟨a1, a2⟩, ⟨b1, b2, b3, b4⟩, ⟨c1, c2, c3, c4, c5⟩, ⟨d1, d2, d3⟩, ⟨e1, e2, e3⟩, f1, g1⟩ := k
  have hh : 53 < h := by omega
  have v : ∀ a, 30 < a → (zup (zup V 30 (zup (V 30) m f)) 29 (zup (V 29) 1 (nI (m + 1)))) a = V a := fun a ha => by rw [zup_ne (by omega), zup_ne (by omega)]
  refine ⟨⟨a1, zBd_ex (fun a ha => by rw [zup_ne (by omega), zup_ne (by omega)]) a2⟩, ⟨b1, b2, b3, fun q hq => by rw [v (42 + 2 * q) (by omega)]; exact b4 q hq⟩, ⟨c1, c2, c3, c4, c5⟩, ⟨rfl, n, fun j => ?_⟩, ⟨e1, e2, e3⟩, f1,
    zLawOk_ex (v h (by omega)) (v (h + 1) (by omega)) (v (h + 2) (by omega)) g1⟩
  show 0 ≤ zup (V 30) m f j ∧ zup (V 30) m f j ≤ 255
  by_cases e : j = m
  · rw [e, zup_eq]; exact ⟨Int32.not_lt.mp (fun z => h0 (Or.inl z)), Int32.not_lt.mp (fun z => h0 (Or.inr z))⟩
  · rw [zup_ne e]; exact d3 j
theorem zIc_shelf {V V' : Nat → Nat → Int32} {h h2 ns nt nh nb dn al m ks : Nat} {pg : Option (List zLine)} (k : zIc V h h2 ns nt nh nb dn al m ks pg) {q : Nat} (hq : q < 6) (v : ∀ a, a ≠ 42 + 2 * q → V' a = V a) (hs : zShB (V' (42 + 2 * q)) nb) : zIc V' h h2 ns nt nh nb dn al m ks pg := by
  obtain ⟨⟨a1, a2⟩, ⟨b1, b2, b3, b4⟩, ⟨c1, c2, c3, c4, c5⟩, ⟨d1, d2, d3⟩, ⟨e1, e2, e3⟩, f1, g1⟩ := k
  have hh : 53 < h := by omega
  refine ⟨⟨zSky_of (v 1 (by omega)) a1, zBd_ex (fun a ha => v a (by omega)) a2⟩, ⟨by rw [v 38 (by omega)]; exact b1, b2, ?_, fun p hp => ?_⟩,
    ⟨by rw [v 31 (by omega)]; exact c1, by rw [v 31 (by omega)]; exact c2, c3, c4, ?_⟩, ⟨by rw [v 29 (by omega)]; exact d1, d2, by rw [v 30 (by omega)]; exact d3⟩, ⟨by rw [v 36 (by omega)]; exact e1, e2, by rw [v 36 (by omega)]; exact e3⟩, f1,
    zLawOk_ex (v h (by omega)) (v (h + 1) (by omega)) (v (h + 2) (by omega)) g1⟩
  · intro i hi; rw [v 39 (by omega)]; exact b3 i hi
  · by_cases e : p = q
    · rw [e]; exact hs
    · rw [v (42 + 2 * p) (by omega)]; exact b4 p hp
  · intro i hi; rw [v 32 (by omega), v 33 (by omega), v 34 (by omega), v 35 (by omega)]; exact c5 i hi
theorem zShB_keep {F : Nat → Int32} {nb : Nat} {b : Int32} (h50 : nb ≤ 50) (hF : zShB F nb) (hb : -1 ≤ b ∧ b < nI nb) : zShB (if b = -1 then zup F 1 (-1) else zup (zup F 1 5) 3 b) nb := by
  by_cases e : b = -1
  · rw [if_pos e]; exact ⟨Or.inl rfl, hF.2⟩
  · rw [if_neg e]
    obtain ⟨q, hq, eq⟩ := zn1 (x := b) (n := nb) (by omega) (by have := hb.1; grind) hb.2
    exact ⟨Or.inr (Or.inr ⟨rfl, q, hq, eq⟩), hF.2⟩
theorem zIc_take {V : Nat → Nat → Int32} {h h2 ns nt nh nb dn al m ks : Nat} {pg : Option (List zLine)} (k : zIc V h h2 ns nt nh nb dn al m ks pg) : zIc (zTakeI V ns) h h2 ns nt nh nb dn al m ns pg := by
  obtain ⟨⟨a1, a2⟩, ⟨b1, b2, b3, b4⟩, ⟨c1, c2, c3, c4, c5⟩, ⟨d1, d2, d3⟩, ⟨e1, e2, e3⟩, f1, g1⟩ := k
  have hh : 53 < h := by omega
  have v : ∀ a, 37 < a → zTakeI V ns a = V a := fun a ha => by unfold zTakeI; rw [zup_ne (by omega), zup_ne (by omega)]
  exact ⟨⟨a1, zBd_ex (fun a ha => by unfold zTakeI; rw [zup_ne (by omega), zup_ne (by omega)]) a2⟩, ⟨b1, b2, b3, fun q hq => by rw [v (42 + 2 * q) (by omega)]; exact b4 q hq⟩, ⟨c1, c2, c3, c4, c5⟩, ⟨d1, d2, d3⟩,
    ⟨rfl, Nat.le_refl _, Or.inr ⟨a2.1 9 0 (by decide) (show 0 < 1 by decide), a2.1 11 0 (by decide) (show 0 < 1 by decide)⟩⟩, f1,
    zLawOk_ex (v h (by omega)) (v (h + 1) (by omega)) (v (h + 2) (by omega)) g1⟩
section S80
variable {g : zG} {l : Launch} {d i h h2 : Nat} {I : Nat → Nat → Int32} {L : Nat → Nat → Int64} {o : Option Nat} {Q : Option Value → zW → Prop}
theorem lw_feed (hd : 100 ≤ d) (hL31 : zgL g < 2 ^ 31) (hi : i + 6 ≤ zgL g) (hv : zIv I L h h2) (K0 : zLwK g l d i Q) : zLA g l d I L (h, h2, o) 400 [(3, .int (nI i)), (0, .ref 1004), (1, .ref 0), (2, .ref 64)] Q := by
  obtain ⟨ns, nt, nh, nb, dn, al, m, ks, pg, hc, hM⟩ := id hv
  by_cases k1 : zgX g (i + 1) < 0 ∨ 255 < zgX g (i + 1)
  ·
    refine zAloadN d_L_law_400 rfl rfl (q := 401) rfl ?_
    refine zAloadN d_L_law_401 rfl rfl (q := 402) rfl ?_
    refine zIloadN d_L_law_402 rfl rfl (q := 403) rfl ?_
    refine zIconst d_L_law_403 (v := 1) ic_1 (q := 404) rfl ?_
    refine zIadd d_L_law_404 (q := 405) rfl ?_
    refine zSld d_L_law_405 (nI_add i 1) (by omega) hL31 (q := 406) rfl ?_
    refine zCallVX d_L_law_406 ml_L_40 k_X11_feed ki_X11_feed ks_X11_feed (sp_X11_feed (d := d - 1) (by omega) hc.2.2.2.1.1 hc.2.2.2.1.2.1) rfl rfl sh_0 (by decide) rfl (by decide) (Nat.le_of_ble_eq_true rfl) (by decide) (by omega) zns0 (q := 409) rfl (fun x w' hw' => ?_)
    rw [if_pos k1] at hw'
    obtain ⟨rfl, rfl⟩ := hw'
    refine zAloadN d_L_law_409 rfl rfl (q := 410) rfl ?_
    refine zAloadN d_L_law_410 rfl rfl (q := 411) rfl ?_
    refine zIloadN d_L_law_411 rfl rfl (q := 412) rfl ?_
    refine zIconst d_L_law_412 (v := 1) ic_1 (q := 413) rfl ?_
    refine zIadd d_L_law_413 (q := 414) rfl ?_
    refine zSld d_L_law_414 (nI_add i 1) (by omega) hL31 (q := 415) rfl ?_
    refine zCallVX d_L_law_415 ml_L_43 k_X12_feed ki_X12_feed ks_X12_feed (sp_X12_feed (V := I) (K := L) (pg := pg) (d := d - 1) (by omega) hM hc.2.2.2.1.1 hc.2.2.2.1.2.1) rfl rfl sh_64 (by decide) rfl (by decide) (Nat.le_of_ble_eq_true rfl) (by decide) (by omega) zns0 (q := 418) rfl (fun x w' hw' => ?_)
    rw [if_pos k1] at hw'
    obtain ⟨rfl, rfl⟩ := hw'
    refine zIcmp_eq d_L_law_418 (tgt := 1418) (q := 421) (by decide) rfl (fun h418 => ?_) (fun h => absurd rfl h)
    refine zSub [0, 1, 2, 3] rfl ?_
    exact K0 _ _ _ _ _ hv
  · by_cases k2 : m < 120
    ·
      refine zAloadN d_L_law_400 rfl rfl (q := 401) rfl ?_
      refine zAloadN d_L_law_401 rfl rfl (q := 402) rfl ?_
      refine zIloadN d_L_law_402 rfl rfl (q := 403) rfl ?_
      refine zIconst d_L_law_403 (v := 1) ic_1 (q := 404) rfl ?_
      refine zIadd d_L_law_404 (q := 405) rfl ?_
      refine zSld d_L_law_405 (nI_add i 1) (by omega) hL31 (q := 406) rfl ?_
      refine zCallVX d_L_law_406 ml_L_40 k_X11_feed ki_X11_feed ks_X11_feed (sp_X11_feed (d := d - 1) (by omega) hc.2.2.2.1.1 hc.2.2.2.1.2.1) rfl rfl sh_0 (by decide) rfl (by decide) (Nat.le_of_ble_eq_true rfl) (by decide) (by omega) zns0 (q := 409) rfl (fun x w' hw' => ?_)
      rw [if_neg k1, if_pos k2] at hw'
      obtain ⟨rfl, rfl⟩ := hw'
      have c9 := zIc_feed (f := zgX g (i + 1)) hc k2 k1
      refine zAloadN d_L_law_409 rfl rfl (q := 410) rfl ?_
      refine zAloadN d_L_law_410 rfl rfl (q := 411) rfl ?_
      refine zIloadN d_L_law_411 rfl rfl (q := 412) rfl ?_
      refine zIconst d_L_law_412 (v := 1) ic_1 (q := 413) rfl ?_
      refine zIadd d_L_law_413 (q := 414) rfl ?_
      refine zSld d_L_law_414 (nI_add i 1) (by omega) hL31 (q := 415) rfl ?_
      refine zCallVX d_L_law_415 ml_L_43 k_X12_feed ki_X12_feed ks_X12_feed (sp_X12_feed (V := I) (K := L) (pg := pg) (d := d - 1) (by omega) (zMd_low (fun a ha ↦ by rw [zup_ne (by omega), zup_ne (by omega)]) rfl hM) hc.2.2.2.1.1 hc.2.2.2.1.2.1) rfl rfl sh_64 (by decide) rfl (by decide) (Nat.le_of_ble_eq_true rfl) (by decide) (by omega) zns0 (q := 418) rfl (fun x w' hw' => ?_)
      rw [if_neg k1, if_pos k2] at hw'
      obtain ⟨rfl, J, rfl, hf, hD⟩ := hw'
      refine zIcmp_eq d_L_law_418 (tgt := 1418) (q := 421) (by decide) rfl (fun h418 => ?_) (fun h => absurd rfl h)
      refine zSub [0, 1, 2, 3] rfl ?_
      exact K0 _ _ _ _ _ (zIv_next c9 (fun a ha => hf a (by have := c9.2.2.2.2.2.1; omega)) hD (fun _ _ _ => rfl))
    ·
      refine zAloadN d_L_law_400 rfl rfl (q := 401) rfl ?_
      refine zAloadN d_L_law_401 rfl rfl (q := 402) rfl ?_
      refine zIloadN d_L_law_402 rfl rfl (q := 403) rfl ?_
      refine zIconst d_L_law_403 (v := 1) ic_1 (q := 404) rfl ?_
      refine zIadd d_L_law_404 (q := 405) rfl ?_
      refine zSld d_L_law_405 (nI_add i 1) (by omega) hL31 (q := 406) rfl ?_
      refine zCallVX d_L_law_406 ml_L_40 k_X11_feed ki_X11_feed ks_X11_feed (sp_X11_feed (d := d - 1) (by omega) hc.2.2.2.1.1 hc.2.2.2.1.2.1) rfl rfl sh_0 (by decide) rfl (by decide) (Nat.le_of_ble_eq_true rfl) (by decide) (by omega) zns0 (q := 409) rfl (fun x w' hw' => ?_)
      rw [if_neg k1, if_neg k2] at hw'
      obtain ⟨rfl, rfl⟩ := hw'
      refine zAloadN d_L_law_409 rfl rfl (q := 410) rfl ?_
      refine zAloadN d_L_law_410 rfl rfl (q := 411) rfl ?_
      refine zIloadN d_L_law_411 rfl rfl (q := 412) rfl ?_
      refine zIconst d_L_law_412 (v := 1) ic_1 (q := 413) rfl ?_
      refine zIadd d_L_law_413 (q := 414) rfl ?_
      refine zSld d_L_law_414 (nI_add i 1) (by omega) hL31 (q := 415) rfl ?_
      refine zCallVX d_L_law_415 ml_L_43 k_X12_feed ki_X12_feed ks_X12_feed (sp_X12_feed (V := I) (K := L) (pg := pg) (d := d - 1) (by omega) hM hc.2.2.2.1.1 hc.2.2.2.1.2.1) rfl rfl sh_64 (by decide) rfl (by decide) (Nat.le_of_ble_eq_true rfl) (by decide) (by omega) zns0 (q := 418) rfl (fun x w' hw' => ?_)
      rw [if_neg k1, if_neg k2] at hw'
      obtain ⟨rfl, rfl⟩ := hw'
      refine zIcmp_eq d_L_law_418 (tgt := 1418) (q := 421) (by decide) rfl (fun h418 => ?_) (fun h => absurd rfl h)
      refine zSub [0, 1, 2, 3] rfl ?_
      exact K0 _ _ _ _ _ hv
theorem lw_taken (hd : 100 ≤ d) (hL31 : zgL g < 2 ^ 31) (hi : i + 6 ≤ zgL g) (hv : zIv I L h h2) (K0 : zLwK g l d i Q) : zLA g l d I L (h, h2, o) 1362 [(3, .int (nI i)), (0, .ref 1004), (1, .ref 0), (2, .ref 64)] Q := by
  obtain ⟨ns, nt, nh, nb, dn, al, m, ks, pg, hc, hM⟩ := id hv
  by_cases hr : 0 ≤ zgX g (i + 1) ∧ zgX g (i + 1) < 6
  · obtain ⟨k, hk, ek⟩ := zn1 (x := zgX g (i + 1)) (n := 6) (by decide) hr.1 hr.2
    refine zAloadN d_L_law_1362 rfl rfl (q := 1363) rfl ?_
    refine zAloadN d_L_law_1363 rfl rfl (q := 1364) rfl ?_
    refine zIloadN d_L_law_1364 rfl rfl (q := 1365) rfl ?_
    refine zIconst d_L_law_1365 (v := 1) ic_1 (q := 1366) rfl ?_
    refine zIadd d_L_law_1366 (q := 1367) rfl ?_
    refine zSld d_L_law_1367 (nI_add i 1) (by omega) hL31 (q := 1368) rfl ?_
    rw [ek]
    refine zAloadN d_L_law_1368 rfl rfl (q := 1369) rfl ?_
    refine zIloadN d_L_law_1369 rfl rfl (q := 1370) rfl ?_
    refine zIconst d_L_law_1370 (v := 2) ic_2 (q := 1371) rfl ?_
    refine zIadd d_L_law_1371 (q := 1372) rfl ?_
    refine zSld d_L_law_1372 (nI_add i 2) (by omega) hL31 (q := 1373) rfl ?_
    refine zCallVP d_L_law_1373 ml_L_179 k_X11_taken ki_X11_taken ks_X11_taken (sp_X11_taken (d := d - 1) (by omega) hk hc.2.1.1 hc.2.1.2.1) rfl rfl sh_0 (by decide) rfl (by decide) (Nat.le_of_ble_eq_true rfl) (by decide) (by omega) zns0 (q := 1376) rfl ?_
    refine zAloadN d_L_law_1376 rfl rfl (q := 1377) rfl ?_
    refine zAloadN d_L_law_1377 rfl rfl (q := 1378) rfl ?_
    refine zIloadN d_L_law_1378 rfl rfl (q := 1379) rfl ?_
    refine zIconst d_L_law_1379 (v := 1) ic_1 (q := 1380) rfl ?_
    refine zIadd d_L_law_1380 (q := 1381) rfl ?_
    refine zSld d_L_law_1381 (nI_add i 1) (by omega) hL31 (q := 1382) rfl ?_
    rw [ek]
    refine zAloadN d_L_law_1382 rfl rfl (q := 1383) rfl ?_
    refine zIloadN d_L_law_1383 rfl rfl (q := 1384) rfl ?_
    refine zIconst d_L_law_1384 (v := 2) ic_2 (q := 1385) rfl ?_
    refine zIadd d_L_law_1385 (q := 1386) rfl ?_
    refine zSld d_L_law_1386 (nI_add i 2) (by omega) hL31 (q := 1387) rfl ?_
    refine zCallVP d_L_law_1387 ml_L_182 k_X12_taken ki_X12_taken ks_X12_taken (sp_X12_taken (V := I) (K := L) (d := d - 1) (by omega) hM.2.2.2.2.2.1 hM.2.2.2.2.1 hc.2.1.2.2.2 hc.2.1.1 hc.2.1.2.1 hc.2.1.2.2.1 hk) rfl rfl sh_64 (by decide) rfl (by decide) (Nat.le_of_ble_eq_true rfl) (by decide) (by omega) zns0 (q := 1390) rfl ?_
    refine zIcmp_eq d_L_law_1390 (tgt := 1418) (q := 1393) (by decide) rfl (fun h1390 => ?_) (fun h => absurd rfl h)
    refine zSub [0, 1, 2, 3] rfl ?_
    exact K0 _ _ _ _ _ hv
  ·
    refine zAloadN d_L_law_1362 rfl rfl (q := 1363) rfl ?_
    refine zAloadN d_L_law_1363 rfl rfl (q := 1364) rfl ?_
    refine zIloadN d_L_law_1364 rfl rfl (q := 1365) rfl ?_
    refine zIconst d_L_law_1365 (v := 1) ic_1 (q := 1366) rfl ?_
    refine zIadd d_L_law_1366 (q := 1367) rfl ?_
    refine zSld d_L_law_1367 (nI_add i 1) (by omega) hL31 (q := 1368) rfl ?_
    refine zAloadN d_L_law_1368 rfl rfl (q := 1369) rfl ?_
    refine zIloadN d_L_law_1369 rfl rfl (q := 1370) rfl ?_
    refine zIconst d_L_law_1370 (v := 2) ic_2 (q := 1371) rfl ?_
    refine zIadd d_L_law_1371 (q := 1372) rfl ?_
    refine zSld d_L_law_1372 (nI_add i 2) (by omega) hL31 (q := 1373) rfl ?_
    refine zCallVP d_L_law_1373 ml_L_179 k_X11_taken ki_X11_taken ks_X11_taken (sp_X11_taken0 (d := d - 1) (by omega) hr) rfl rfl sh_0 (by decide) rfl (by decide) (Nat.le_of_ble_eq_true rfl) (by decide) (by omega) zns0 (q := 1376) rfl ?_
    refine zAloadN d_L_law_1376 rfl rfl (q := 1377) rfl ?_
    refine zAloadN d_L_law_1377 rfl rfl (q := 1378) rfl ?_
    refine zIloadN d_L_law_1378 rfl rfl (q := 1379) rfl ?_
    refine zIconst d_L_law_1379 (v := 1) ic_1 (q := 1380) rfl ?_
    refine zIadd d_L_law_1380 (q := 1381) rfl ?_
    refine zSld d_L_law_1381 (nI_add i 1) (by omega) hL31 (q := 1382) rfl ?_
    refine zAloadN d_L_law_1382 rfl rfl (q := 1383) rfl ?_
    refine zIloadN d_L_law_1383 rfl rfl (q := 1384) rfl ?_
    refine zIconst d_L_law_1384 (v := 2) ic_2 (q := 1385) rfl ?_
    refine zIadd d_L_law_1385 (q := 1386) rfl ?_
    refine zSld d_L_law_1386 (nI_add i 2) (by omega) hL31 (q := 1387) rfl ?_
    refine zCallVP d_L_law_1387 ml_L_182 k_X12_taken ki_X12_taken ks_X12_taken (sp_X12_taken0 (d := d - 1) (by omega) hr) rfl rfl sh_64 (by decide) rfl (by decide) (Nat.le_of_ble_eq_true rfl) (by decide) (by omega) zns0 (q := 1390) rfl ?_
    refine zIcmp_eq d_L_law_1390 (tgt := 1418) (q := 1393) (by decide) rfl (fun h1390 => ?_) (fun h => absurd rfl h)
    refine zSub [0, 1, 2, 3] rfl ?_
    exact K0 _ _ _ _ _ hv
theorem lw_keep (hd : 100 ≤ d) (hL31 : zgL g < 2 ^ 31) (hi : i + 6 ≤ zgL g) (hv : zIv I L h h2) (K0 : zLwK g l d i Q) : zLA g l d I L (h, h2, o) 1116 [(3, .int (nI i)), (0, .ref 1004), (1, .ref 0), (2, .ref 64)] Q := by
  obtain ⟨ns, nt, nh, nb, dn, al, m, ks, pg, hc, hM⟩ := id hv
  by_cases hr : 0 ≤ zgX g (i + 1) ∧ zgX g (i + 1) < 6
  · obtain ⟨k, hk, ek⟩ := zn1 (x := zgX g (i + 1)) (n := 6) (by decide) hr.1 hr.2
    by_cases k1 : -1 ≤ zgX g (i + 2) ∧ zgX g (i + 2) < I 38 2
    ·
      refine zAloadN d_L_law_1116 rfl rfl (q := 1117) rfl ?_
      refine zAloadN d_L_law_1117 rfl rfl (q := 1118) rfl ?_
      refine zIloadN d_L_law_1118 rfl rfl (q := 1119) rfl ?_
      refine zIconst d_L_law_1119 (v := 1) ic_1 (q := 1120) rfl ?_
      refine zIadd d_L_law_1120 (q := 1121) rfl ?_
      refine zSld d_L_law_1121 (nI_add i 1) (by omega) hL31 (q := 1122) rfl ?_
      rw [ek]
      refine zAloadN d_L_law_1122 rfl rfl (q := 1123) rfl ?_
      refine zIloadN d_L_law_1123 rfl rfl (q := 1124) rfl ?_
      refine zIconst d_L_law_1124 (v := 2) ic_2 (q := 1125) rfl ?_
      refine zIadd d_L_law_1125 (q := 1126) rfl ?_
      refine zSld d_L_law_1126 (nI_add i 2) (by omega) hL31 (q := 1127) rfl ?_
      refine zCallVX d_L_law_1127 ml_L_155 k_X11_keep ki_X11_keep ks_X11_keep (sp_X11_keep (d := d - 1) (by omega) hk) rfl rfl sh_0 (by decide) rfl (by decide) (Nat.le_of_ble_eq_true rfl) (by decide) (by omega) zns0 (q := 1130) rfl (fun x w' hw' => ?_)
      obtain ⟨-, rfl, rfl⟩ := hw'.resolve_left (fun z => z.1 k1)
      have c9 := zIc_shelf hc hk (V' := zup I (42 + 2 * k) (if zgX g (i + 2) = -1 then zup (I (42 + 2 * k)) 1 (-1) else zup (zup (I (42 + 2 * k)) 1 5) 3 (zgX g (i + 2)))) (fun a ha => zup_ne ha) (by rw [zup_eq]; exact zShB_keep hc.2.1.2.1 (hc.2.1.2.2.2 k hk) (by rw [← hc.2.1.1]; exact k1))
      refine zAloadN d_L_law_1130 rfl rfl (q := 1131) rfl ?_
      refine zAloadN d_L_law_1131 rfl rfl (q := 1132) rfl ?_
      refine zIloadN d_L_law_1132 rfl rfl (q := 1133) rfl ?_
      refine zIconst d_L_law_1133 (v := 1) ic_1 (q := 1134) rfl ?_
      refine zIadd d_L_law_1134 (q := 1135) rfl ?_
      refine zSld d_L_law_1135 (nI_add i 1) (by omega) hL31 (q := 1136) rfl ?_
      rw [ek]
      refine zAloadN d_L_law_1136 rfl rfl (q := 1137) rfl ?_
      refine zIloadN d_L_law_1137 rfl rfl (q := 1138) rfl ?_
      refine zIconst d_L_law_1138 (v := 2) ic_2 (q := 1139) rfl ?_
      refine zIadd d_L_law_1139 (q := 1140) rfl ?_
      refine zSld d_L_law_1140 (nI_add i 2) (by omega) hL31 (q := 1141) rfl ?_
      refine zCallVX d_L_law_1141 ml_L_158 k_X12_keep ki_X12_keep ks_X12_keep (sp_X12_keep (V := I) (K := L) (pg := pg) (d := d - 1) (by omega) (zMd_low (fun a ha ↦ by rw [zup_ne (by omega)]) rfl hM) hc.2.1.1 hc.2.1.2.1 hk) rfl rfl sh_64 (by decide) rfl (by decide) (Nat.le_of_ble_eq_true rfl) (by decide) (by omega) zns0 (q := 1144) rfl (fun x w' hw' => ?_)
      obtain ⟨-, rfl, J, rfl, hf, hD⟩ := hw'.resolve_left (fun z => z.1 k1)
      refine zIcmp_eq d_L_law_1144 (tgt := 1418) (q := 1147) (by decide) rfl (fun h1144 => ?_) (fun h => absurd rfl h)
      refine zSub [0, 1, 2, 3] rfl ?_
      exact K0 _ _ _ _ _ (zIv_next c9 (fun a ha => hf a (by have := c9.2.2.2.2.2.1; omega)) hD (fun _ _ _ => rfl))
    ·
      refine zAloadN d_L_law_1116 rfl rfl (q := 1117) rfl ?_
      refine zAloadN d_L_law_1117 rfl rfl (q := 1118) rfl ?_
      refine zIloadN d_L_law_1118 rfl rfl (q := 1119) rfl ?_
      refine zIconst d_L_law_1119 (v := 1) ic_1 (q := 1120) rfl ?_
      refine zIadd d_L_law_1120 (q := 1121) rfl ?_
      refine zSld d_L_law_1121 (nI_add i 1) (by omega) hL31 (q := 1122) rfl ?_
      rw [ek]
      refine zAloadN d_L_law_1122 rfl rfl (q := 1123) rfl ?_
      refine zIloadN d_L_law_1123 rfl rfl (q := 1124) rfl ?_
      refine zIconst d_L_law_1124 (v := 2) ic_2 (q := 1125) rfl ?_
      refine zIadd d_L_law_1125 (q := 1126) rfl ?_
      refine zSld d_L_law_1126 (nI_add i 2) (by omega) hL31 (q := 1127) rfl ?_
      refine zCallVX d_L_law_1127 ml_L_155 k_X11_keep ki_X11_keep ks_X11_keep (sp_X11_keep (d := d - 1) (by omega) hk) rfl rfl sh_0 (by decide) rfl (by decide) (Nat.le_of_ble_eq_true rfl) (by decide) (by omega) zns0 (q := 1130) rfl (fun x w' hw' => ?_)
      obtain ⟨-, rfl, rfl⟩ := hw'.resolve_right (fun z => k1 z.1)
      refine zAloadN d_L_law_1130 rfl rfl (q := 1131) rfl ?_
      refine zAloadN d_L_law_1131 rfl rfl (q := 1132) rfl ?_
      refine zIloadN d_L_law_1132 rfl rfl (q := 1133) rfl ?_
      refine zIconst d_L_law_1133 (v := 1) ic_1 (q := 1134) rfl ?_
      refine zIadd d_L_law_1134 (q := 1135) rfl ?_
      refine zSld d_L_law_1135 (nI_add i 1) (by omega) hL31 (q := 1136) rfl ?_
      rw [ek]
      refine zAloadN d_L_law_1136 rfl rfl (q := 1137) rfl ?_
      refine zIloadN d_L_law_1137 rfl rfl (q := 1138) rfl ?_
      refine zIconst d_L_law_1138 (v := 2) ic_2 (q := 1139) rfl ?_
      refine zIadd d_L_law_1139 (q := 1140) rfl ?_
      refine zSld d_L_law_1140 (nI_add i 2) (by omega) hL31 (q := 1141) rfl ?_
      refine zCallVX d_L_law_1141 ml_L_158 k_X12_keep ki_X12_keep ks_X12_keep (sp_X12_keep (V := I) (K := L) (pg := pg) (d := d - 1) (by omega) hM hc.2.1.1 hc.2.1.2.1 hk) rfl rfl sh_64 (by decide) rfl (by decide) (Nat.le_of_ble_eq_true rfl) (by decide) (by omega) zns0 (q := 1144) rfl (fun x w' hw' => ?_)
      obtain ⟨-, rfl, rfl⟩ := hw'.resolve_right (fun z => k1 z.1)
      refine zIcmp_eq d_L_law_1144 (tgt := 1418) (q := 1147) (by decide) rfl (fun h1144 => ?_) (fun h => absurd rfl h)
      refine zSub [0, 1, 2, 3] rfl ?_
      exact K0 _ _ _ _ _ hv
  ·
    refine zAloadN d_L_law_1116 rfl rfl (q := 1117) rfl ?_
    refine zAloadN d_L_law_1117 rfl rfl (q := 1118) rfl ?_
    refine zIloadN d_L_law_1118 rfl rfl (q := 1119) rfl ?_
    refine zIconst d_L_law_1119 (v := 1) ic_1 (q := 1120) rfl ?_
    refine zIadd d_L_law_1120 (q := 1121) rfl ?_
    refine zSld d_L_law_1121 (nI_add i 1) (by omega) hL31 (q := 1122) rfl ?_
    refine zAloadN d_L_law_1122 rfl rfl (q := 1123) rfl ?_
    refine zIloadN d_L_law_1123 rfl rfl (q := 1124) rfl ?_
    refine zIconst d_L_law_1124 (v := 2) ic_2 (q := 1125) rfl ?_
    refine zIadd d_L_law_1125 (q := 1126) rfl ?_
    refine zSld d_L_law_1126 (nI_add i 2) (by omega) hL31 (q := 1127) rfl ?_
    refine zCallVP d_L_law_1127 ml_L_155 k_X11_keep ki_X11_keep ks_X11_keep (sp_X11_keep0 (d := d - 1) (by omega) hr) rfl rfl sh_0 (by decide) rfl (by decide) (Nat.le_of_ble_eq_true rfl) (by decide) (by omega) zns0 (q := 1130) rfl ?_
    refine zAloadN d_L_law_1130 rfl rfl (q := 1131) rfl ?_
    refine zAloadN d_L_law_1131 rfl rfl (q := 1132) rfl ?_
    refine zIloadN d_L_law_1132 rfl rfl (q := 1133) rfl ?_
    refine zIconst d_L_law_1133 (v := 1) ic_1 (q := 1134) rfl ?_
    refine zIadd d_L_law_1134 (q := 1135) rfl ?_
    refine zSld d_L_law_1135 (nI_add i 1) (by omega) hL31 (q := 1136) rfl ?_
    refine zAloadN d_L_law_1136 rfl rfl (q := 1137) rfl ?_
    refine zIloadN d_L_law_1137 rfl rfl (q := 1138) rfl ?_
    refine zIconst d_L_law_1138 (v := 2) ic_2 (q := 1139) rfl ?_
    refine zIadd d_L_law_1139 (q := 1140) rfl ?_
    refine zSld d_L_law_1140 (nI_add i 2) (by omega) hL31 (q := 1141) rfl ?_
    refine zCallVP d_L_law_1141 ml_L_158 k_X12_keep ki_X12_keep ks_X12_keep (sp_X12_keep0 (d := d - 1) (by omega) hr) rfl rfl sh_64 (by decide) rfl (by decide) (Nat.le_of_ble_eq_true rfl) (by decide) (by omega) zns0 (q := 1144) rfl ?_
    refine zIcmp_eq d_L_law_1144 (tgt := 1418) (q := 1147) (by decide) rfl (fun h1144 => ?_) (fun h => absurd rfl h)
    refine zSub [0, 1, 2, 3] rfl ?_
    exact K0 _ _ _ _ _ hv
theorem lw_image (hd : 100 ≤ d) (hL31 : zgL g < 2 ^ 31) (hi : i + 6 ≤ zgL g) (hv : zIv I L h h2) (K0 : zLwK g l d i Q) : zLA g l d I L (h, h2, o) 975 [(3, .int (nI i)), (0, .ref 1004), (1, .ref 0), (2, .ref 64)] Q := by
  obtain ⟨ns, nt, nh, nb, dn, al, m, ks, pg, hc, hM⟩ := id hv
  refine zAloadN d_L_law_975 rfl rfl (q := 976) rfl ?_
  refine zCallVX d_L_law_976 ml_L_127 k_X11_image ki_X11_image ks_X11_image (sp_X11_image (d := d - 1) (by omega) hc.1.1) rfl rfl sh_0 (by decide) rfl (by decide) (Nat.le_of_ble_eq_true rfl) (by decide) (by omega) zns0 (q := 979) rfl (fun x w' hw' => ?_)
  obtain ⟨rfl, rfl⟩ := hw'
  have c9 := zIc_take hc
  refine zAloadN d_L_law_979 rfl rfl (q := 980) rfl ?_
  refine zCallVX d_L_law_980 ml_L_130 k_X12_image ki_X12_image ks_X12_image (sp_X12_image (V := I) (K := L) (pg := pg) (d := d - 1) (by omega) (zMd_low (fun a ha ↦ by unfold zTakeI; rw [zup_ne (by omega), zup_ne (by omega)]) rfl hM) hc.1.1 hc.1.2) rfl rfl sh_64 (by decide) rfl (by decide) (Nat.le_of_ble_eq_true rfl) (by decide) (by omega) zns0 (q := 983) rfl (fun x w' hw' => ?_)
  obtain ⟨rfl, J, rfl, hf, hD⟩ := hw'
  refine zIcmp_eq d_L_law_983 (tgt := 1418) (q := 986) (by decide) rfl (fun h983 => ?_) (fun h => absurd rfl h)
  refine zSub [0, 1, 2, 3] rfl ?_
  exact K0 _ _ _ _ _ (zIv_next c9 (fun a ha => hf a (by have := c9.2.2.2.2.2.1; omega)) hD (fun _ _ _ => rfl))
end S80

