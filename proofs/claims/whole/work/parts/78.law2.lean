/-! THE LAW: QUESTIONS -/
section S78
variable {g : zG} {l : Launch} {d i h h2 : Nat} {I : Nat → Nat → Int32} {L : Nat → Nat → Int64} {o : Option Nat} {Q : Option Value → zW → Prop}
theorem lw_drops (hd : 100 ≤ d) (hL31 : zgL g < 2 ^ 31) (hi : i + 6 ≤ zgL g) (hv : zIv I L h h2) (K0 : zLwK g l d i Q) : zLA g l d I L (h, h2, o) 583 [(3, .int (nI i)), (0, .ref 1004), (1, .ref 0), (2, .ref 64)] Q := by
  obtain ⟨ns, nt, nh, nb, dn, al, m, ks, pg, hc, hM⟩ := id hv
  refine zAloadN d_L_law_583 rfl rfl (q := 584) rfl ?_
  refine zAloadN d_L_law_584 rfl rfl (q := 585) rfl ?_
  refine zIloadN d_L_law_585 rfl rfl (q := 586) rfl ?_
  refine zIconst d_L_law_586 (v := 1) ic_1 (q := 587) rfl ?_
  refine zIadd d_L_law_587 (q := 588) rfl ?_
  refine zSld d_L_law_588 (nI_add i 1) (by omega) hL31 (q := 589) rfl ?_
  refine zCallVP d_L_law_589 ml_L_70 k_X11_drops ki_X11_drops ks_X11_drops (sp_X11_drops (d := d - 1) (by omega) hc.1.1) rfl rfl sh_0 (by decide) rfl (by decide) (Nat.le_of_ble_eq_true rfl) (by decide) (by omega) zns0 (q := 592) rfl ?_
  refine zAloadN d_L_law_592 rfl rfl (q := 593) rfl ?_
  refine zAloadN d_L_law_593 rfl rfl (q := 594) rfl ?_
  refine zIloadN d_L_law_594 rfl rfl (q := 595) rfl ?_
  refine zIconst d_L_law_595 (v := 1) ic_1 (q := 596) rfl ?_
  refine zIadd d_L_law_596 (q := 597) rfl ?_
  refine zSld d_L_law_597 (nI_add i 1) (by omega) hL31 (q := 598) rfl ?_
  refine zCallVP d_L_law_598 ml_L_73 k_X12_drops ki_X12_drops ks_X12_drops (sp_X12_drops (V := I) (d := d - 1) (by omega) hM.1 hc.1.1) rfl rfl sh_64 (by decide) rfl (by decide) (Nat.le_of_ble_eq_true rfl) (by decide) (by omega) zns0 (q := 601) rfl ?_
  refine zIcmp_eq d_L_law_601 (tgt := 1418) (q := 604) (by decide) rfl (fun h601 => ?_) (fun h => absurd rfl h)
  refine zSub [0, 1, 2, 3] rfl ?_
  exact K0 _ _ _ _ _ hv
theorem lw_upBy (hd : 100 ≤ d) (hL31 : zgL g < 2 ^ 31) (hi : i + 6 ≤ zgL g) (hv : zIv I L h h2) (K0 : zLwK g l d i Q) : zLA g l d I L (h, h2, o) 606 [(3, .int (nI i)), (0, .ref 1004), (1, .ref 0), (2, .ref 64)] Q := by
  obtain ⟨ns, nt, nh, nb, dn, al, m, ks, pg, hc, hM⟩ := id hv
  refine zAloadN d_L_law_606 rfl rfl (q := 607) rfl ?_
  refine zAloadN d_L_law_607 rfl rfl (q := 608) rfl ?_
  refine zIloadN d_L_law_608 rfl rfl (q := 609) rfl ?_
  refine zIconst d_L_law_609 (v := 1) ic_1 (q := 610) rfl ?_
  refine zIadd d_L_law_610 (q := 611) rfl ?_
  refine zSld d_L_law_611 (nI_add i 1) (by omega) hL31 (q := 612) rfl ?_
  refine zCallVP d_L_law_612 ml_L_74 k_X11_upBy ki_X11_upBy ks_X11_upBy (sp_X11_upBy (d := d - 1) (by omega) hc.1.1) rfl rfl sh_0 (by decide) rfl (by decide) (Nat.le_of_ble_eq_true rfl) (by decide) (by omega) zns0 (q := 615) rfl ?_
  refine zAloadN d_L_law_615 rfl rfl (q := 616) rfl ?_
  refine zAloadN d_L_law_616 rfl rfl (q := 617) rfl ?_
  refine zIloadN d_L_law_617 rfl rfl (q := 618) rfl ?_
  refine zIconst d_L_law_618 (v := 1) ic_1 (q := 619) rfl ?_
  refine zIadd d_L_law_619 (q := 620) rfl ?_
  refine zSld d_L_law_620 (nI_add i 1) (by omega) hL31 (q := 621) rfl ?_
  refine zCallVP d_L_law_621 ml_L_77 k_X12_upBy ki_X12_upBy ks_X12_upBy (sp_X12_upBy (V := I) (d := d - 1) (by omega) hM.1 hc.1.1 hc.1.2) rfl rfl sh_64 (by decide) rfl (by decide) (Nat.le_of_ble_eq_true rfl) (by decide) (by omega) zns0 (q := 624) rfl ?_
  refine zIcmp_eq d_L_law_624 (tgt := 1418) (q := 627) (by decide) rfl (fun h624 => ?_) (fun h => absurd rfl h)
  refine zSub [0, 1, 2, 3] rfl ?_
  exact K0 _ _ _ _ _ hv
theorem lw_lies (hd : 100 ≤ d) (hL31 : zgL g < 2 ^ 31) (hi : i + 6 ≤ zgL g) (hv : zIv I L h h2) (K0 : zLwK g l d i Q) : zLA g l d I L (h, h2, o) 629 [(3, .int (nI i)), (0, .ref 1004), (1, .ref 0), (2, .ref 64)] Q := by
  obtain ⟨ns, nt, nh, nb, dn, al, m, ks, pg, hc, hM⟩ := id hv
  refine zAloadN d_L_law_629 rfl rfl (q := 630) rfl ?_
  refine zAloadN d_L_law_630 rfl rfl (q := 631) rfl ?_
  refine zIloadN d_L_law_631 rfl rfl (q := 632) rfl ?_
  refine zIconst d_L_law_632 (v := 1) ic_1 (q := 633) rfl ?_
  refine zIadd d_L_law_633 (q := 634) rfl ?_
  refine zSld d_L_law_634 (nI_add i 1) (by omega) hL31 (q := 635) rfl ?_
  refine zCallVP d_L_law_635 ml_L_78 k_X11_lies ki_X11_lies ks_X11_lies (sp_X11_lies (d := d - 1) (by omega) hc.1.1) rfl rfl sh_0 (by decide) rfl (by decide) (Nat.le_of_ble_eq_true rfl) (by decide) (by omega) zns0 (q := 638) rfl ?_
  refine zAloadN d_L_law_638 rfl rfl (q := 639) rfl ?_
  refine zAloadN d_L_law_639 rfl rfl (q := 640) rfl ?_
  refine zIloadN d_L_law_640 rfl rfl (q := 641) rfl ?_
  refine zIconst d_L_law_641 (v := 1) ic_1 (q := 642) rfl ?_
  refine zIadd d_L_law_642 (q := 643) rfl ?_
  refine zSld d_L_law_643 (nI_add i 1) (by omega) hL31 (q := 644) rfl ?_
  refine zCallVP d_L_law_644 ml_L_81 k_X12_lies ki_X12_lies ks_X12_lies (sp_X12_lies (V := I) (d := d - 1) (by omega) hM.1 hc.1.1) rfl rfl sh_64 (by decide) rfl (by decide) (Nat.le_of_ble_eq_true rfl) (by decide) (by omega) zns0 (q := 647) rfl ?_
  refine zIcmp_eq d_L_law_647 (tgt := 1418) (q := 650) (by decide) rfl (fun h647 => ?_) (fun h => absurd rfl h)
  refine zSub [0, 1, 2, 3] rfl ?_
  exact K0 _ _ _ _ _ hv
theorem lw_trace (hd : 100 ≤ d) (hL31 : zgL g < 2 ^ 31) (hi : i + 6 ≤ zgL g) (hv : zIv I L h h2) (K0 : zLwK g l d i Q) : zLA g l d I L (h, h2, o) 1093 [(3, .int (nI i)), (0, .ref 1004), (1, .ref 0), (2, .ref 64)] Q := by
  obtain ⟨ns, nt, nh, nb, dn, al, m, ks, pg, hc, hM⟩ := id hv
  refine zAloadN d_L_law_1093 rfl rfl (q := 1094) rfl ?_
  refine zAloadN d_L_law_1094 rfl rfl (q := 1095) rfl ?_
  refine zIloadN d_L_law_1095 rfl rfl (q := 1096) rfl ?_
  refine zIconst d_L_law_1096 (v := 1) ic_1 (q := 1097) rfl ?_
  refine zIadd d_L_law_1097 (q := 1098) rfl ?_
  refine zSld d_L_law_1098 (nI_add i 1) (by omega) hL31 (q := 1099) rfl ?_
  refine zCallVP d_L_law_1099 ml_L_151 k_X11_trace ki_X11_trace ks_X11_trace (sp_X11_trace (d := d - 1) (by omega)) rfl rfl sh_0 (by decide) rfl (by decide) (Nat.le_of_ble_eq_true rfl) (by decide) (by omega) zns0 (q := 1102) rfl ?_
  refine zAloadN d_L_law_1102 rfl rfl (q := 1103) rfl ?_
  refine zAloadN d_L_law_1103 rfl rfl (q := 1104) rfl ?_
  refine zIloadN d_L_law_1104 rfl rfl (q := 1105) rfl ?_
  refine zIconst d_L_law_1105 (v := 1) ic_1 (q := 1106) rfl ?_
  refine zIadd d_L_law_1106 (q := 1107) rfl ?_
  refine zSld d_L_law_1107 (nI_add i 1) (by omega) hL31 (q := 1108) rfl ?_
  refine zCallVP d_L_law_1108 ml_L_154 k_X12_trace ki_X12_trace ks_X12_trace (sp_X12_trace (V := I) (d := d - 1) (by omega) hM.2.2.2.2.1) rfl rfl sh_64 (by decide) rfl (by decide) (Nat.le_of_ble_eq_true rfl) (by decide) (by omega) zns0 (q := 1111) rfl ?_
  refine zIcmp_eq d_L_law_1111 (tgt := 1418) (q := 1114) (by decide) rfl (fun h1111 => ?_) (fun h => absurd rfl h)
  refine zSub [0, 1, 2, 3] rfl ?_
  exact K0 _ _ _ _ _ hv
theorem lw_count (hd : 100 ≤ d) (hL31 : zgL g < 2 ^ 31) (hi : i + 6 ≤ zgL g) (hv : zIv I L h h2) (K0 : zLwK g l d i Q) : zLA g l d I L (h, h2, o) 1395 [(3, .int (nI i)), (0, .ref 1004), (1, .ref 0), (2, .ref 64)] Q := by
  obtain ⟨ns, nt, nh, nb, dn, al, m, ks, pg, hc, hM⟩ := id hv
  refine zAloadN d_L_law_1395 rfl rfl (q := 1396) rfl ?_
  refine zAloadN d_L_law_1396 rfl rfl (q := 1397) rfl ?_
  refine zIloadN d_L_law_1397 rfl rfl (q := 1398) rfl ?_
  refine zIconst d_L_law_1398 (v := 1) ic_1 (q := 1399) rfl ?_
  refine zIadd d_L_law_1399 (q := 1400) rfl ?_
  refine zSld d_L_law_1400 (nI_add i 1) (by omega) hL31 (q := 1401) rfl ?_
  refine zCallVP d_L_law_1401 ml_L_183 k_X11_count ki_X11_count ks_X11_count (sp_X11_count (d := d - 1) (by omega) hc.1.1) rfl rfl sh_0 (by decide) rfl (by decide) (Nat.le_of_ble_eq_true rfl) (by decide) (by omega) zns0 (q := 1404) rfl ?_
  refine zAloadN d_L_law_1404 rfl rfl (q := 1405) rfl ?_
  refine zAloadN d_L_law_1405 rfl rfl (q := 1406) rfl ?_
  refine zIloadN d_L_law_1406 rfl rfl (q := 1407) rfl ?_
  refine zIconst d_L_law_1407 (v := 1) ic_1 (q := 1408) rfl ?_
  refine zIadd d_L_law_1408 (q := 1409) rfl ?_
  refine zSld d_L_law_1409 (nI_add i 1) (by omega) hL31 (q := 1410) rfl ?_
  refine zCallVP d_L_law_1410 ml_L_186 k_X12_count ki_X12_count ks_X12_count (sp_X12_count (V := I) (d := d - 1) (by omega) (K := L) hM hc.1.1 hc.1.2) rfl rfl sh_64 (by decide) rfl (by decide) (Nat.le_of_ble_eq_true rfl) (by decide) (by omega) zns0 (q := 1413) rfl ?_
  refine zIcmp_eq d_L_law_1413 (tgt := 1418) (q := 1416) (by decide) rfl (fun h1413 => ?_) (fun h => absurd rfl h)
  refine zSub [0, 1, 2, 3] rfl ?_
  exact K0 _ _ _ _ _ hv
theorem lw_element (hd : 100 ≤ d) (hL31 : zgL g < 2 ^ 31) (hi : i + 6 ≤ zgL g) (hv : zIv I L h h2) (K0 : zLwK g l d i Q) : zLA g l d I L (h, h2, o) 1265 [(3, .int (nI i)), (0, .ref 1004), (1, .ref 0), (2, .ref 64)] Q := by
  obtain ⟨ns, nt, nh, nb, dn, al, m, ks, pg, hc, hM⟩ := id hv
  by_cases hr : 0 ≤ zgX g (i + 1) ∧ zgX g (i + 1) < 6
  · obtain ⟨k, hk, ek⟩ := zn1 (x := zgX g (i + 1)) (n := 6) (by decide) hr.1 hr.2
    obtain ⟨sz, hsz, em⟩ := (hc.2.1.2.2.2 k hk).2
    refine zAloadN d_L_law_1265 rfl rfl (q := 1266) rfl ?_
    refine zAloadN d_L_law_1266 rfl rfl (q := 1267) rfl ?_
    refine zIloadN d_L_law_1267 rfl rfl (q := 1268) rfl ?_
    refine zIconst d_L_law_1268 (v := 1) ic_1 (q := 1269) rfl ?_
    refine zIadd d_L_law_1269 (q := 1270) rfl ?_
    refine zSld d_L_law_1270 (nI_add i 1) (by omega) hL31 (q := 1271) rfl ?_
    rw [ek]
    refine zAloadN d_L_law_1271 rfl rfl (q := 1272) rfl ?_
    refine zIloadN d_L_law_1272 rfl rfl (q := 1273) rfl ?_
    refine zIconst d_L_law_1273 (v := 2) ic_2 (q := 1274) rfl ?_
    refine zIadd d_L_law_1274 (q := 1275) rfl ?_
    refine zSld d_L_law_1275 (nI_add i 2) (by omega) hL31 (q := 1276) rfl ?_
    refine zCallVP d_L_law_1276 ml_L_170 k_X11_element ki_X11_element ks_X11_element (sp_X11_element (d := d - 1) (by omega) hk em hsz) rfl rfl sh_0 (by decide) rfl (by decide) (Nat.le_of_ble_eq_true rfl) (by decide) (by omega) zns0 (q := 1279) rfl ?_
    refine zAloadN d_L_law_1279 rfl rfl (q := 1280) rfl ?_
    refine zAloadN d_L_law_1280 rfl rfl (q := 1281) rfl ?_
    refine zIloadN d_L_law_1281 rfl rfl (q := 1282) rfl ?_
    refine zIconst d_L_law_1282 (v := 1) ic_1 (q := 1283) rfl ?_
    refine zIadd d_L_law_1283 (q := 1284) rfl ?_
    refine zSld d_L_law_1284 (nI_add i 1) (by omega) hL31 (q := 1285) rfl ?_
    rw [ek]
    refine zAloadN d_L_law_1285 rfl rfl (q := 1286) rfl ?_
    refine zIloadN d_L_law_1286 rfl rfl (q := 1287) rfl ?_
    refine zIconst d_L_law_1287 (v := 2) ic_2 (q := 1288) rfl ?_
    refine zIadd d_L_law_1288 (q := 1289) rfl ?_
    refine zSld d_L_law_1289 (nI_add i 2) (by omega) hL31 (q := 1290) rfl ?_
    refine zCallVP d_L_law_1290 ml_L_173 k_X12_element ki_X12_element ks_X12_element (sp_X12_element (V := I) (K := L) (d := d - 1) (by omega) hM.2.2.2.2.2.1 hc.2.1.2.2.2 hc.2.1.2.1 hk em hsz) rfl rfl sh_64 (by decide) rfl (by decide) (Nat.le_of_ble_eq_true rfl) (by decide) (by omega) zns0 (q := 1293) rfl ?_
    refine zLcmp d_L_law_1293 (q := 1294) rfl ?_
    refine zIf_eq d_L_law_1294 (tgt := 1418) (q := 1297) (by decide) rfl (fun h1294 => ?_) (fun h => absurd ((lg_cmp_eq _ _).mpr rfl) h)
    refine zSub [0, 1, 2, 3] rfl ?_
    exact K0 _ _ _ _ _ hv
  ·
    refine zAloadN d_L_law_1265 rfl rfl (q := 1266) rfl ?_
    refine zAloadN d_L_law_1266 rfl rfl (q := 1267) rfl ?_
    refine zIloadN d_L_law_1267 rfl rfl (q := 1268) rfl ?_
    refine zIconst d_L_law_1268 (v := 1) ic_1 (q := 1269) rfl ?_
    refine zIadd d_L_law_1269 (q := 1270) rfl ?_
    refine zSld d_L_law_1270 (nI_add i 1) (by omega) hL31 (q := 1271) rfl ?_
    refine zAloadN d_L_law_1271 rfl rfl (q := 1272) rfl ?_
    refine zIloadN d_L_law_1272 rfl rfl (q := 1273) rfl ?_
    refine zIconst d_L_law_1273 (v := 2) ic_2 (q := 1274) rfl ?_
    refine zIadd d_L_law_1274 (q := 1275) rfl ?_
    refine zSld d_L_law_1275 (nI_add i 2) (by omega) hL31 (q := 1276) rfl ?_
    refine zCallVP d_L_law_1276 ml_L_170 k_X11_element ki_X11_element ks_X11_element (sp_X11_element0 (d := d - 1) (by omega) hr) rfl rfl sh_0 (by decide) rfl (by decide) (Nat.le_of_ble_eq_true rfl) (by decide) (by omega) zns0 (q := 1279) rfl ?_
    refine zAloadN d_L_law_1279 rfl rfl (q := 1280) rfl ?_
    refine zAloadN d_L_law_1280 rfl rfl (q := 1281) rfl ?_
    refine zIloadN d_L_law_1281 rfl rfl (q := 1282) rfl ?_
    refine zIconst d_L_law_1282 (v := 1) ic_1 (q := 1283) rfl ?_
    refine zIadd d_L_law_1283 (q := 1284) rfl ?_
    refine zSld d_L_law_1284 (nI_add i 1) (by omega) hL31 (q := 1285) rfl ?_
    refine zAloadN d_L_law_1285 rfl rfl (q := 1286) rfl ?_
    refine zIloadN d_L_law_1286 rfl rfl (q := 1287) rfl ?_
    refine zIconst d_L_law_1287 (v := 2) ic_2 (q := 1288) rfl ?_
    refine zIadd d_L_law_1288 (q := 1289) rfl ?_
    refine zSld d_L_law_1289 (nI_add i 2) (by omega) hL31 (q := 1290) rfl ?_
    refine zCallVP d_L_law_1290 ml_L_173 k_X12_element ki_X12_element ks_X12_element (sp_X12_element0 (d := d - 1) (by omega) hr) rfl rfl sh_64 (by decide) rfl (by decide) (Nat.le_of_ble_eq_true rfl) (by decide) (by omega) zns0 (q := 1293) rfl ?_
    refine zLcmp d_L_law_1293 (q := 1294) rfl ?_
    refine zIf_eq d_L_law_1294 (tgt := 1418) (q := 1297) (by decide) rfl (fun h1294 => ?_) (fun h => absurd ((lg_cmp_eq _ _).mpr rfl) h)
    refine zSub [0, 1, 2, 3] rfl ?_
    exact K0 _ _ _ _ _ hv
end S78

