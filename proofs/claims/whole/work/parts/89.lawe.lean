/-! THE LAW: PLANS -/
section S89
variable {g : zG} {l : Launch} {d i h h2 : Nat} {I : Nat → Nat → Int32} {L : Nat → Nat → Int64} {o : Option Nat} {Q : Option Value → zW → Prop}
theorem lw_flung (hd : 100 ≤ d) (hL31 : zgL g < 2 ^ 31) (hi : i + 6 ≤ zgL g) (hv : zIv I L h h2) (K0 : zLwK g l d i Q) : zLA g l d I L (h, h2, o) 459 [(3, .int (nI i)), (0, .ref 1004), (1, .ref 0), (2, .ref 64)] Q := by
  obtain ⟨ns, nt, nh, nb, dn, al, m, ks, pg, hc, hM⟩ := id hv
  have hh : h = 54 ∨ h = 59 := by have := hc.2.2.2.2.2.1; omega
  by_cases hr : 0 ≤ zgX g (i + 1) ∧ zgX g (i + 1) < 6
  · obtain ⟨k, hk, ek⟩ := zn1 (x := zgX g (i + 1)) (n := 6) (by decide) hr.1 hr.2
    obtain ⟨sz, hsz, em⟩ := (hc.2.1.2.2.2 k hk).2
    by_cases k1 : zgX g (i + 2) < -1
    ·
      refine zAloadN d_L_law_459 rfl rfl (q := 460) rfl ?_
      refine zAloadN d_L_law_460 rfl rfl (q := 461) rfl ?_
      refine zIloadN d_L_law_461 rfl rfl (q := 462) rfl ?_
      refine zIconst d_L_law_462 (v := 1) ic_1 (q := 463) rfl ?_
      refine zIadd d_L_law_463 (q := 464) rfl ?_
      refine zSld d_L_law_464 (nI_add i 1) (by omega) hL31 (q := 465) rfl ?_
      rw [ek]
      refine zAloadN d_L_law_465 rfl rfl (q := 466) rfl ?_
      refine zIloadN d_L_law_466 rfl rfl (q := 467) rfl ?_
      refine zIconst d_L_law_467 (v := 2) ic_2 (q := 468) rfl ?_
      refine zIadd d_L_law_468 (q := 469) rfl ?_
      refine zSld d_L_law_469 (nI_add i 2) (by omega) hL31 (q := 470) rfl ?_
      refine zCallVX d_L_law_470 ml_L_53 k_X11_flung ki_X11_flung ks_X11_flung (sp_X11_flung (d := d - 1) (by omega) hc.1.1 hk em hsz hh hc.2.2.2.2.2.2) rfl rfl sh_0 (by decide) rfl (by decide) (Nat.le_of_ble_eq_true rfl) (by decide) (by omega) zns0 (q := 473) rfl (fun x w' hw' => ?_)
      obtain ⟨-, rfl, rfl⟩ := hw'.resolve_right (fun z => by rcases z with z | z <;> exact z.1 k1)
      refine zAloadN d_L_law_473 rfl rfl (q := 474) rfl ?_
      refine zAloadN d_L_law_474 rfl rfl (q := 475) rfl ?_
      refine zIloadN d_L_law_475 rfl rfl (q := 476) rfl ?_
      refine zIconst d_L_law_476 (v := 1) ic_1 (q := 477) rfl ?_
      refine zIadd d_L_law_477 (q := 478) rfl ?_
      refine zSld d_L_law_478 (nI_add i 1) (by omega) hL31 (q := 479) rfl ?_
      rw [ek]
      refine zAloadN d_L_law_479 rfl rfl (q := 480) rfl ?_
      refine zIloadN d_L_law_480 rfl rfl (q := 481) rfl ?_
      refine zIconst d_L_law_481 (v := 2) ic_2 (q := 482) rfl ?_
      refine zIadd d_L_law_482 (q := 483) rfl ?_
      refine zSld d_L_law_483 (nI_add i 2) (by omega) hL31 (q := 484) rfl ?_
      refine zCallVX d_L_law_484 ml_L_56 k_X12_flung ki_X12_flung ks_X12_flung (sp_X12_flung (V := I) (K := L) (nb := nb) (d := d - 1) (by omega) hM.1 hc.1.1 hc.1.2 hM.2.2.2.2.2.1 hc.2.1.2.2.2 hc.2.1.2.1 hk em hsz) rfl rfl sh_64 (by decide) rfl (by decide) (Nat.le_of_ble_eq_true rfl) (by decide) (by omega) zns0 (q := 487) rfl (fun x w' hw' => ?_)
      obtain ⟨-, rfl, rfl⟩ := hw'.resolve_right (fun z => by rcases z with z | z <;> exact z.1 k1)
      refine zIcmp_eq d_L_law_487 (tgt := 1418) (q := 490) (by decide) rfl (fun h487 => ?_) (fun h => absurd rfl h)
      refine zSub [0, 1, 2, 3] rfl ?_
      exact K0 _ _ _ _ _ hv
    · by_cases k2 : I (42 + 2 * k) 1 = 0
      ·
        refine zAloadN d_L_law_459 rfl rfl (q := 460) rfl ?_
        refine zAloadN d_L_law_460 rfl rfl (q := 461) rfl ?_
        refine zIloadN d_L_law_461 rfl rfl (q := 462) rfl ?_
        refine zIconst d_L_law_462 (v := 1) ic_1 (q := 463) rfl ?_
        refine zIadd d_L_law_463 (q := 464) rfl ?_
        refine zSld d_L_law_464 (nI_add i 1) (by omega) hL31 (q := 465) rfl ?_
        rw [ek]
        refine zAloadN d_L_law_465 rfl rfl (q := 466) rfl ?_
        refine zIloadN d_L_law_466 rfl rfl (q := 467) rfl ?_
        refine zIconst d_L_law_467 (v := 2) ic_2 (q := 468) rfl ?_
        refine zIadd d_L_law_468 (q := 469) rfl ?_
        refine zSld d_L_law_469 (nI_add i 2) (by omega) hL31 (q := 470) rfl ?_
        refine zCallVX d_L_law_470 ml_L_53 k_X11_flung ki_X11_flung ks_X11_flung (sp_X11_flung (d := d - 1) (by omega) hc.1.1 hk em hsz hh hc.2.2.2.2.2.2) rfl rfl sh_0 (by decide) rfl (by decide) (Nat.le_of_ble_eq_true rfl) (by decide) (by omega) zns0 (q := 473) rfl (fun x w' hw' => ?_)
        obtain ⟨-, -, J, rfl, hJ, rfl⟩ := (hw'.resolve_left (fun z => k1 z.1)).resolve_left (fun z => z.2.1 k2)
        have hM1 : zMd J L I L pg := zMd_low (fun a ha => hJ.1 a (by omega) (by omega) (by omega)) rfl hM
        refine zAloadN d_L_law_473 rfl rfl (q := 474) rfl ?_
        refine zAloadN d_L_law_474 rfl rfl (q := 475) rfl ?_
        refine zIloadN d_L_law_475 rfl rfl (q := 476) rfl ?_
        refine zIconst d_L_law_476 (v := 1) ic_1 (q := 477) rfl ?_
        refine zIadd d_L_law_477 (q := 478) rfl ?_
        refine zSld d_L_law_478 (nI_add i 1) (by omega) hL31 (q := 479) rfl ?_
        rw [ek]
        refine zAloadN d_L_law_479 rfl rfl (q := 480) rfl ?_
        refine zIloadN d_L_law_480 rfl rfl (q := 481) rfl ?_
        refine zIconst d_L_law_481 (v := 2) ic_2 (q := 482) rfl ?_
        refine zIadd d_L_law_482 (q := 483) rfl ?_
        refine zSld d_L_law_483 (nI_add i 2) (by omega) hL31 (q := 484) rfl ?_
        refine zCallVX d_L_law_484 ml_L_56 k_X12_flung ki_X12_flung ks_X12_flung (sp_X12_flung (V := I) (K := L) (nb := nb) (d := d - 1) (by omega) hM1.1 hc.1.1 hc.1.2 hM1.2.2.2.2.2.1 hc.2.1.2.2.2 hc.2.1.2.1 hk em hsz) rfl rfl sh_64 (by decide) rfl (by decide) (Nat.le_of_ble_eq_true rfl) (by decide) (by omega) zns0 (q := 487) rfl (fun x w' hw' => ?_)
        obtain ⟨-, -, rfl, J2, rfl, hS⟩ := (hw'.resolve_left (fun z => k1 z.1)).resolve_left (fun z => z.2.1 k2)
        refine zIcmp_eq d_L_law_487 (tgt := 1418) (q := 490) (by decide) rfl (fun h487 => ?_) (fun h => absurd rfl h)
        refine zSub [0, 1, 2, 3] rfl ?_
        exact K0 _ _ _ _ _ (zIv_next (V' := I) hc (fun a ha => (hS.1 a (by omega) (by omega)).trans (hJ.1 a (by omega) (by omega) (by omega))) (zScr_d hS hM1) (fun _ _ _ => rfl))
      ·
        refine zAloadN d_L_law_459 rfl rfl (q := 460) rfl ?_
        refine zAloadN d_L_law_460 rfl rfl (q := 461) rfl ?_
        refine zIloadN d_L_law_461 rfl rfl (q := 462) rfl ?_
        refine zIconst d_L_law_462 (v := 1) ic_1 (q := 463) rfl ?_
        refine zIadd d_L_law_463 (q := 464) rfl ?_
        refine zSld d_L_law_464 (nI_add i 1) (by omega) hL31 (q := 465) rfl ?_
        rw [ek]
        refine zAloadN d_L_law_465 rfl rfl (q := 466) rfl ?_
        refine zIloadN d_L_law_466 rfl rfl (q := 467) rfl ?_
        refine zIconst d_L_law_467 (v := 2) ic_2 (q := 468) rfl ?_
        refine zIadd d_L_law_468 (q := 469) rfl ?_
        refine zSld d_L_law_469 (nI_add i 2) (by omega) hL31 (q := 470) rfl ?_
        refine zCallVX d_L_law_470 ml_L_53 k_X11_flung ki_X11_flung ks_X11_flung (sp_X11_flung (d := d - 1) (by omega) hc.1.1 hk em hsz hh hc.2.2.2.2.2.2) rfl rfl sh_0 (by decide) rfl (by decide) (Nat.le_of_ble_eq_true rfl) (by decide) (by omega) zns0 (q := 473) rfl (fun x w' hw' => ?_)
        obtain ⟨-, -, rfl, rfl⟩ := (hw'.resolve_left (fun z => k1 z.1)).resolve_right (fun z => k2 z.2.1)
        refine zAloadN d_L_law_473 rfl rfl (q := 474) rfl ?_
        refine zAloadN d_L_law_474 rfl rfl (q := 475) rfl ?_
        refine zIloadN d_L_law_475 rfl rfl (q := 476) rfl ?_
        refine zIconst d_L_law_476 (v := 1) ic_1 (q := 477) rfl ?_
        refine zIadd d_L_law_477 (q := 478) rfl ?_
        refine zSld d_L_law_478 (nI_add i 1) (by omega) hL31 (q := 479) rfl ?_
        rw [ek]
        refine zAloadN d_L_law_479 rfl rfl (q := 480) rfl ?_
        refine zIloadN d_L_law_480 rfl rfl (q := 481) rfl ?_
        refine zIconst d_L_law_481 (v := 2) ic_2 (q := 482) rfl ?_
        refine zIadd d_L_law_482 (q := 483) rfl ?_
        refine zSld d_L_law_483 (nI_add i 2) (by omega) hL31 (q := 484) rfl ?_
        refine zCallVX d_L_law_484 ml_L_56 k_X12_flung ki_X12_flung ks_X12_flung (sp_X12_flung (V := I) (K := L) (nb := nb) (d := d - 1) (by omega) hM.1 hc.1.1 hc.1.2 hM.2.2.2.2.2.1 hc.2.1.2.2.2 hc.2.1.2.1 hk em hsz) rfl rfl sh_64 (by decide) rfl (by decide) (Nat.le_of_ble_eq_true rfl) (by decide) (by omega) zns0 (q := 487) rfl (fun x w' hw' => ?_)
        obtain ⟨-, -, rfl, rfl⟩ := (hw'.resolve_left (fun z => k1 z.1)).resolve_right (fun z => k2 z.2.1)
        refine zIcmp_eq d_L_law_487 (tgt := 1418) (q := 490) (by decide) rfl (fun h487 => ?_) (fun h => absurd rfl h)
        refine zSub [0, 1, 2, 3] rfl ?_
        exact K0 _ _ _ _ _ hv
  ·
    refine zAloadN d_L_law_459 rfl rfl (q := 460) rfl ?_
    refine zAloadN d_L_law_460 rfl rfl (q := 461) rfl ?_
    refine zIloadN d_L_law_461 rfl rfl (q := 462) rfl ?_
    refine zIconst d_L_law_462 (v := 1) ic_1 (q := 463) rfl ?_
    refine zIadd d_L_law_463 (q := 464) rfl ?_
    refine zSld d_L_law_464 (nI_add i 1) (by omega) hL31 (q := 465) rfl ?_
    refine zAloadN d_L_law_465 rfl rfl (q := 466) rfl ?_
    refine zIloadN d_L_law_466 rfl rfl (q := 467) rfl ?_
    refine zIconst d_L_law_467 (v := 2) ic_2 (q := 468) rfl ?_
    refine zIadd d_L_law_468 (q := 469) rfl ?_
    refine zSld d_L_law_469 (nI_add i 2) (by omega) hL31 (q := 470) rfl ?_
    refine zCallVP d_L_law_470 ml_L_53 k_X11_flung ki_X11_flung ks_X11_flung (sp_X11_flung0 (d := d - 1) (by omega) hr) rfl rfl sh_0 (by decide) rfl (by decide) (Nat.le_of_ble_eq_true rfl) (by decide) (by omega) zns0 (q := 473) rfl ?_
    refine zAloadN d_L_law_473 rfl rfl (q := 474) rfl ?_
    refine zAloadN d_L_law_474 rfl rfl (q := 475) rfl ?_
    refine zIloadN d_L_law_475 rfl rfl (q := 476) rfl ?_
    refine zIconst d_L_law_476 (v := 1) ic_1 (q := 477) rfl ?_
    refine zIadd d_L_law_477 (q := 478) rfl ?_
    refine zSld d_L_law_478 (nI_add i 1) (by omega) hL31 (q := 479) rfl ?_
    refine zAloadN d_L_law_479 rfl rfl (q := 480) rfl ?_
    refine zIloadN d_L_law_480 rfl rfl (q := 481) rfl ?_
    refine zIconst d_L_law_481 (v := 2) ic_2 (q := 482) rfl ?_
    refine zIadd d_L_law_482 (q := 483) rfl ?_
    refine zSld d_L_law_483 (nI_add i 2) (by omega) hL31 (q := 484) rfl ?_
    refine zCallVP d_L_law_484 ml_L_56 k_X12_flung ki_X12_flung ks_X12_flung (sp_X12_flung0 (d := d - 1) (by omega) hr) rfl rfl sh_64 (by decide) rfl (by decide) (Nat.le_of_ble_eq_true rfl) (by decide) (by omega) zns0 (q := 487) rfl ?_
    refine zIcmp_eq d_L_law_487 (tgt := 1418) (q := 490) (by decide) rfl (fun h487 => ?_) (fun h => absurd rfl h)
    refine zSub [0, 1, 2, 3] rfl ?_
    exact K0 _ _ _ _ _ hv
theorem lw_likely (hd : 100 ≤ d) (hL31 : zgL g < 2 ^ 31) (hi : i + 6 ≤ zgL g) (hv : zIv I L h h2) (K0 : zLwK g l d i Q) : zLA g l d I L (h, h2, o) 492 [(3, .int (nI i)), (0, .ref 1004), (1, .ref 0), (2, .ref 64)] Q := by
  obtain ⟨ns, nt, nh, nb, dn, al, m, ks, pg, hc, hM⟩ := id hv
  have hh : h = 54 ∨ h = 59 := by have := hc.2.2.2.2.2.1; omega
  by_cases hr : 0 ≤ zgX g (i + 1) ∧ zgX g (i + 1) < 6
  · obtain ⟨k, hk, ek⟩ := zn1 (x := zgX g (i + 1)) (n := 6) (by decide) hr.1 hr.2
    obtain ⟨sz, hsz, em⟩ := (hc.2.1.2.2.2 k hk).2
    by_cases k1 : I (42 + 2 * k) 1 = 0 ∧ 0 ≤ zgX g (i + 2) ∧ zgX g (i + 2) ≤ 1
    ·
      refine zAloadN d_L_law_492 rfl rfl (q := 493) rfl ?_
      refine zAloadN d_L_law_493 rfl rfl (q := 494) rfl ?_
      refine zIloadN d_L_law_494 rfl rfl (q := 495) rfl ?_
      refine zIconst d_L_law_495 (v := 1) ic_1 (q := 496) rfl ?_
      refine zIadd d_L_law_496 (q := 497) rfl ?_
      refine zSld d_L_law_497 (nI_add i 1) (by omega) hL31 (q := 498) rfl ?_
      rw [ek]
      refine zAloadN d_L_law_498 rfl rfl (q := 499) rfl ?_
      refine zIloadN d_L_law_499 rfl rfl (q := 500) rfl ?_
      refine zIconst d_L_law_500 (v := 2) ic_2 (q := 501) rfl ?_
      refine zIadd d_L_law_501 (q := 502) rfl ?_
      refine zSld d_L_law_502 (nI_add i 2) (by omega) hL31 (q := 503) rfl ?_
      refine zCallV d_L_law_503 ml_L_57 k_X11_likely ki_X11_likely ks_X11_likely (sp_X11_likely (d := d - 1) (by omega) hc.1.1 hk em hsz hh hc.2.2.2.2.2.2) rfl rfl sh_0 (by decide) rfl (by decide) (Nat.le_of_ble_eq_true rfl) (by decide) (by omega) zns0 (q := 506) rfl (fun v w' _ hw' => ?_)
      obtain ⟨-, rfl, J, rfl, hJ⟩ := hw'.resolve_left (fun z => z.1 k1)
      simp only [Option.toList, List.cons_append, List.nil_append]
      have hM1 : zMd J L I L pg := zMd_low (fun a ha => hJ.1 a (by omega) (by omega) (by omega)) rfl hM
      refine zAloadN d_L_law_506 rfl rfl (q := 507) rfl ?_
      refine zAloadN d_L_law_507 rfl rfl (q := 508) rfl ?_
      refine zIloadN d_L_law_508 rfl rfl (q := 509) rfl ?_
      refine zIconst d_L_law_509 (v := 1) ic_1 (q := 510) rfl ?_
      refine zIadd d_L_law_510 (q := 511) rfl ?_
      refine zSld d_L_law_511 (nI_add i 1) (by omega) hL31 (q := 512) rfl ?_
      rw [ek]
      refine zAloadN d_L_law_512 rfl rfl (q := 513) rfl ?_
      refine zIloadN d_L_law_513 rfl rfl (q := 514) rfl ?_
      refine zIconst d_L_law_514 (v := 2) ic_2 (q := 515) rfl ?_
      refine zIadd d_L_law_515 (q := 516) rfl ?_
      refine zSld d_L_law_516 (nI_add i 2) (by omega) hL31 (q := 517) rfl ?_
      refine zCallV d_L_law_517 ml_L_61 k_X12_likely ki_X12_likely ks_X12_likely (sp_X12_likely (V := I) (K := L) (nb := nb) (d := d - 1) (by omega) hM1.1 hc.1.1 hc.1.2 hM1.2.2.2.2.2.1 hc.2.1.2.2.2 hc.2.1.2.1 hM1.2.2.2.2.2.2 hk em hsz) rfl rfl sh_64 (by decide) rfl (by decide) (Nat.le_of_ble_eq_true rfl) (by decide) (by omega) zns0 (q := 520) rfl (fun v w' _ hw' => ?_)
      obtain ⟨-, rfl, J2, rfl, hS⟩ := hw'.resolve_left (fun z => z.1 k1)
      simp only [Option.toList, List.cons_append, List.nil_append]
      refine zLcmp d_L_law_520 (q := 521) rfl ?_
      refine zIf_eq d_L_law_521 (tgt := 1418) (q := 524) (by decide) rfl (fun h521 => ?_) (fun h => absurd ((lg_cmp_eq _ _).mpr rfl) h)
      refine zSub [0, 1, 2, 3] rfl ?_
      exact K0 _ _ _ _ _ (zIv_next (V' := I) hc (fun a ha => (hS.1 a (by omega) (by omega)).trans (hJ.1 a (by omega) (by omega) (by omega))) (zScr_d hS hM1) (fun _ _ _ => rfl))
    ·
      refine zAloadN d_L_law_492 rfl rfl (q := 493) rfl ?_
      refine zAloadN d_L_law_493 rfl rfl (q := 494) rfl ?_
      refine zIloadN d_L_law_494 rfl rfl (q := 495) rfl ?_
      refine zIconst d_L_law_495 (v := 1) ic_1 (q := 496) rfl ?_
      refine zIadd d_L_law_496 (q := 497) rfl ?_
      refine zSld d_L_law_497 (nI_add i 1) (by omega) hL31 (q := 498) rfl ?_
      rw [ek]
      refine zAloadN d_L_law_498 rfl rfl (q := 499) rfl ?_
      refine zIloadN d_L_law_499 rfl rfl (q := 500) rfl ?_
      refine zIconst d_L_law_500 (v := 2) ic_2 (q := 501) rfl ?_
      refine zIadd d_L_law_501 (q := 502) rfl ?_
      refine zSld d_L_law_502 (nI_add i 2) (by omega) hL31 (q := 503) rfl ?_
      refine zCallV d_L_law_503 ml_L_57 k_X11_likely ki_X11_likely ks_X11_likely (sp_X11_likely (d := d - 1) (by omega) hc.1.1 hk em hsz hh hc.2.2.2.2.2.2) rfl rfl sh_0 (by decide) rfl (by decide) (Nat.le_of_ble_eq_true rfl) (by decide) (by omega) zns0 (q := 506) rfl (fun v w' _ hw' => ?_)
      obtain ⟨-, rfl, rfl⟩ := hw'.resolve_right (fun z => k1 z.1)
      simp only [Option.toList, List.cons_append, List.nil_append]
      refine zAloadN d_L_law_506 rfl rfl (q := 507) rfl ?_
      refine zAloadN d_L_law_507 rfl rfl (q := 508) rfl ?_
      refine zIloadN d_L_law_508 rfl rfl (q := 509) rfl ?_
      refine zIconst d_L_law_509 (v := 1) ic_1 (q := 510) rfl ?_
      refine zIadd d_L_law_510 (q := 511) rfl ?_
      refine zSld d_L_law_511 (nI_add i 1) (by omega) hL31 (q := 512) rfl ?_
      rw [ek]
      refine zAloadN d_L_law_512 rfl rfl (q := 513) rfl ?_
      refine zIloadN d_L_law_513 rfl rfl (q := 514) rfl ?_
      refine zIconst d_L_law_514 (v := 2) ic_2 (q := 515) rfl ?_
      refine zIadd d_L_law_515 (q := 516) rfl ?_
      refine zSld d_L_law_516 (nI_add i 2) (by omega) hL31 (q := 517) rfl ?_
      refine zCallV d_L_law_517 ml_L_61 k_X12_likely ki_X12_likely ks_X12_likely (sp_X12_likely (V := I) (K := L) (nb := nb) (d := d - 1) (by omega) hM.1 hc.1.1 hc.1.2 hM.2.2.2.2.2.1 hc.2.1.2.2.2 hc.2.1.2.1 hM.2.2.2.2.2.2 hk em hsz) rfl rfl sh_64 (by decide) rfl (by decide) (Nat.le_of_ble_eq_true rfl) (by decide) (by omega) zns0 (q := 520) rfl (fun v w' _ hw' => ?_)
      obtain ⟨-, rfl, rfl⟩ := hw'.resolve_right (fun z => k1 z.1)
      simp only [Option.toList, List.cons_append, List.nil_append]
      refine zLcmp d_L_law_520 (q := 521) rfl ?_
      refine zIf_eq d_L_law_521 (tgt := 1418) (q := 524) (by decide) rfl (fun h521 => ?_) (fun h => absurd ((lg_cmp_eq _ _).mpr rfl) h)
      refine zSub [0, 1, 2, 3] rfl ?_
      exact K0 _ _ _ _ _ hv
  ·
    refine zAloadN d_L_law_492 rfl rfl (q := 493) rfl ?_
    refine zAloadN d_L_law_493 rfl rfl (q := 494) rfl ?_
    refine zIloadN d_L_law_494 rfl rfl (q := 495) rfl ?_
    refine zIconst d_L_law_495 (v := 1) ic_1 (q := 496) rfl ?_
    refine zIadd d_L_law_496 (q := 497) rfl ?_
    refine zSld d_L_law_497 (nI_add i 1) (by omega) hL31 (q := 498) rfl ?_
    refine zAloadN d_L_law_498 rfl rfl (q := 499) rfl ?_
    refine zIloadN d_L_law_499 rfl rfl (q := 500) rfl ?_
    refine zIconst d_L_law_500 (v := 2) ic_2 (q := 501) rfl ?_
    refine zIadd d_L_law_501 (q := 502) rfl ?_
    refine zSld d_L_law_502 (nI_add i 2) (by omega) hL31 (q := 503) rfl ?_
    refine zCallVP d_L_law_503 ml_L_57 k_X11_likely ki_X11_likely ks_X11_likely (sp_X11_likely0 (d := d - 1) (by omega) hr) rfl rfl sh_0 (by decide) rfl (by decide) (Nat.le_of_ble_eq_true rfl) (by decide) (by omega) zns0 (q := 506) rfl ?_
    refine zAloadN d_L_law_506 rfl rfl (q := 507) rfl ?_
    refine zAloadN d_L_law_507 rfl rfl (q := 508) rfl ?_
    refine zIloadN d_L_law_508 rfl rfl (q := 509) rfl ?_
    refine zIconst d_L_law_509 (v := 1) ic_1 (q := 510) rfl ?_
    refine zIadd d_L_law_510 (q := 511) rfl ?_
    refine zSld d_L_law_511 (nI_add i 1) (by omega) hL31 (q := 512) rfl ?_
    refine zAloadN d_L_law_512 rfl rfl (q := 513) rfl ?_
    refine zIloadN d_L_law_513 rfl rfl (q := 514) rfl ?_
    refine zIconst d_L_law_514 (v := 2) ic_2 (q := 515) rfl ?_
    refine zIadd d_L_law_515 (q := 516) rfl ?_
    refine zSld d_L_law_516 (nI_add i 2) (by omega) hL31 (q := 517) rfl ?_
    refine zCallVP d_L_law_517 ml_L_61 k_X12_likely ki_X12_likely ks_X12_likely (sp_X12_likely0 (d := d - 1) (by omega) hr) rfl rfl sh_64 (by decide) rfl (by decide) (Nat.le_of_ble_eq_true rfl) (by decide) (by omega) zns0 (q := 520) rfl ?_
    refine zLcmp d_L_law_520 (q := 521) rfl ?_
    refine zIf_eq d_L_law_521 (tgt := 1418) (q := 524) (by decide) rfl (fun h521 => ?_) (fun h => absurd ((lg_cmp_eq _ _).mpr rfl) h)
    refine zSub [0, 1, 2, 3] rfl ?_
    exact K0 _ _ _ _ _ hv
theorem lw_mean (hd : 100 ≤ d) (hL31 : zgL g < 2 ^ 31) (hi : i + 6 ≤ zgL g) (hv : zIv I L h h2) (K0 : zLwK g l d i Q) : zLA g l d I L (h, h2, o) 526 [(3, .int (nI i)), (0, .ref 1004), (1, .ref 0), (2, .ref 64)] Q := by
  obtain ⟨ns, nt, nh, nb, dn, al, m, ks, pg, hc, hM⟩ := id hv
  have hh : h = 54 ∨ h = 59 := by have := hc.2.2.2.2.2.1; omega
  by_cases hr : 0 ≤ zgX g (i + 1) ∧ zgX g (i + 1) < 6
  · obtain ⟨k, hk, ek⟩ := zn1 (x := zgX g (i + 1)) (n := 6) (by decide) hr.1 hr.2
    obtain ⟨sz, hsz, em⟩ := (hc.2.1.2.2.2 k hk).2
    by_cases k1 : I (42 + 2 * k) 1 = 0 ∧ 0 ≤ zgX g (i + 2) ∧ zgX g (i + 2) ≤ 1
    ·
      refine zAloadN d_L_law_526 rfl rfl (q := 527) rfl ?_
      refine zAloadN d_L_law_527 rfl rfl (q := 528) rfl ?_
      refine zIloadN d_L_law_528 rfl rfl (q := 529) rfl ?_
      refine zIconst d_L_law_529 (v := 1) ic_1 (q := 530) rfl ?_
      refine zIadd d_L_law_530 (q := 531) rfl ?_
      refine zSld d_L_law_531 (nI_add i 1) (by omega) hL31 (q := 532) rfl ?_
      rw [ek]
      refine zAloadN d_L_law_532 rfl rfl (q := 533) rfl ?_
      refine zIloadN d_L_law_533 rfl rfl (q := 534) rfl ?_
      refine zIconst d_L_law_534 (v := 2) ic_2 (q := 535) rfl ?_
      refine zIadd d_L_law_535 (q := 536) rfl ?_
      refine zSld d_L_law_536 (nI_add i 2) (by omega) hL31 (q := 537) rfl ?_
      refine zCallV d_L_law_537 ml_L_62 k_X11_mean ki_X11_mean ks_X11_mean (sp_X11_mean (d := d - 1) (by omega) hc.1.1 hk em hsz hh hc.2.2.2.2.2.2) rfl rfl sh_0 (by decide) rfl (by decide) (Nat.le_of_ble_eq_true rfl) (by decide) (by omega) zns0 (q := 540) rfl (fun v w' _ hw' => ?_)
      obtain ⟨-, rfl, J, rfl, hJ⟩ := hw'.resolve_left (fun z => z.1 k1)
      simp only [Option.toList, List.cons_append, List.nil_append]
      have hM1 : zMd J L I L pg := zMd_low (fun a ha => hJ.1 a (by omega) (by omega) (by omega)) rfl hM
      refine zAloadN d_L_law_540 rfl rfl (q := 541) rfl ?_
      refine zAloadN d_L_law_541 rfl rfl (q := 542) rfl ?_
      refine zIloadN d_L_law_542 rfl rfl (q := 543) rfl ?_
      refine zIconst d_L_law_543 (v := 1) ic_1 (q := 544) rfl ?_
      refine zIadd d_L_law_544 (q := 545) rfl ?_
      refine zSld d_L_law_545 (nI_add i 1) (by omega) hL31 (q := 546) rfl ?_
      rw [ek]
      refine zAloadN d_L_law_546 rfl rfl (q := 547) rfl ?_
      refine zIloadN d_L_law_547 rfl rfl (q := 548) rfl ?_
      refine zIconst d_L_law_548 (v := 2) ic_2 (q := 549) rfl ?_
      refine zIadd d_L_law_549 (q := 550) rfl ?_
      refine zSld d_L_law_550 (nI_add i 2) (by omega) hL31 (q := 551) rfl ?_
      refine zCallV d_L_law_551 ml_L_65 k_X12_mean ki_X12_mean ks_X12_mean (sp_X12_mean (V := I) (K := L) (nb := nb) (d := d - 1) (by omega) hM1.1 hc.1.1 hc.1.2 hM1.2.2.2.2.2.1 hc.2.1.2.2.2 hc.2.1.2.1 hM1.2.2.2.2.2.2 hk em hsz) rfl rfl sh_64 (by decide) rfl (by decide) (Nat.le_of_ble_eq_true rfl) (by decide) (by omega) zns0 (q := 554) rfl (fun v w' _ hw' => ?_)
      obtain ⟨-, rfl, J2, rfl, hS⟩ := hw'.resolve_left (fun z => z.1 k1)
      simp only [Option.toList, List.cons_append, List.nil_append]
      refine zLcmp d_L_law_554 (q := 555) rfl ?_
      refine zIf_eq d_L_law_555 (tgt := 1418) (q := 558) (by decide) rfl (fun h555 => ?_) (fun h => absurd ((lg_cmp_eq _ _).mpr rfl) h)
      refine zSub [0, 1, 2, 3] rfl ?_
      exact K0 _ _ _ _ _ (zIv_next (V' := I) hc (fun a ha => (hS.1 a (by omega) (by omega)).trans (hJ.1 a (by omega) (by omega) (by omega))) (zScr_d hS hM1) (fun _ _ _ => rfl))
    ·
      refine zAloadN d_L_law_526 rfl rfl (q := 527) rfl ?_
      refine zAloadN d_L_law_527 rfl rfl (q := 528) rfl ?_
      refine zIloadN d_L_law_528 rfl rfl (q := 529) rfl ?_
      refine zIconst d_L_law_529 (v := 1) ic_1 (q := 530) rfl ?_
      refine zIadd d_L_law_530 (q := 531) rfl ?_
      refine zSld d_L_law_531 (nI_add i 1) (by omega) hL31 (q := 532) rfl ?_
      rw [ek]
      refine zAloadN d_L_law_532 rfl rfl (q := 533) rfl ?_
      refine zIloadN d_L_law_533 rfl rfl (q := 534) rfl ?_
      refine zIconst d_L_law_534 (v := 2) ic_2 (q := 535) rfl ?_
      refine zIadd d_L_law_535 (q := 536) rfl ?_
      refine zSld d_L_law_536 (nI_add i 2) (by omega) hL31 (q := 537) rfl ?_
      refine zCallV d_L_law_537 ml_L_62 k_X11_mean ki_X11_mean ks_X11_mean (sp_X11_mean (d := d - 1) (by omega) hc.1.1 hk em hsz hh hc.2.2.2.2.2.2) rfl rfl sh_0 (by decide) rfl (by decide) (Nat.le_of_ble_eq_true rfl) (by decide) (by omega) zns0 (q := 540) rfl (fun v w' _ hw' => ?_)
      obtain ⟨-, rfl, rfl⟩ := hw'.resolve_right (fun z => k1 z.1)
      simp only [Option.toList, List.cons_append, List.nil_append]
      refine zAloadN d_L_law_540 rfl rfl (q := 541) rfl ?_
      refine zAloadN d_L_law_541 rfl rfl (q := 542) rfl ?_
      refine zIloadN d_L_law_542 rfl rfl (q := 543) rfl ?_
      refine zIconst d_L_law_543 (v := 1) ic_1 (q := 544) rfl ?_
      refine zIadd d_L_law_544 (q := 545) rfl ?_
      refine zSld d_L_law_545 (nI_add i 1) (by omega) hL31 (q := 546) rfl ?_
      rw [ek]
      refine zAloadN d_L_law_546 rfl rfl (q := 547) rfl ?_
      refine zIloadN d_L_law_547 rfl rfl (q := 548) rfl ?_
      refine zIconst d_L_law_548 (v := 2) ic_2 (q := 549) rfl ?_
      refine zIadd d_L_law_549 (q := 550) rfl ?_
      refine zSld d_L_law_550 (nI_add i 2) (by omega) hL31 (q := 551) rfl ?_
      refine zCallV d_L_law_551 ml_L_65 k_X12_mean ki_X12_mean ks_X12_mean (sp_X12_mean (V := I) (K := L) (nb := nb) (d := d - 1) (by omega) hM.1 hc.1.1 hc.1.2 hM.2.2.2.2.2.1 hc.2.1.2.2.2 hc.2.1.2.1 hM.2.2.2.2.2.2 hk em hsz) rfl rfl sh_64 (by decide) rfl (by decide) (Nat.le_of_ble_eq_true rfl) (by decide) (by omega) zns0 (q := 554) rfl (fun v w' _ hw' => ?_)
      obtain ⟨-, rfl, rfl⟩ := hw'.resolve_right (fun z => k1 z.1)
      simp only [Option.toList, List.cons_append, List.nil_append]
      refine zLcmp d_L_law_554 (q := 555) rfl ?_
      refine zIf_eq d_L_law_555 (tgt := 1418) (q := 558) (by decide) rfl (fun h555 => ?_) (fun h => absurd ((lg_cmp_eq _ _).mpr rfl) h)
      refine zSub [0, 1, 2, 3] rfl ?_
      exact K0 _ _ _ _ _ hv
  ·
    refine zAloadN d_L_law_526 rfl rfl (q := 527) rfl ?_
    refine zAloadN d_L_law_527 rfl rfl (q := 528) rfl ?_
    refine zIloadN d_L_law_528 rfl rfl (q := 529) rfl ?_
    refine zIconst d_L_law_529 (v := 1) ic_1 (q := 530) rfl ?_
    refine zIadd d_L_law_530 (q := 531) rfl ?_
    refine zSld d_L_law_531 (nI_add i 1) (by omega) hL31 (q := 532) rfl ?_
    refine zAloadN d_L_law_532 rfl rfl (q := 533) rfl ?_
    refine zIloadN d_L_law_533 rfl rfl (q := 534) rfl ?_
    refine zIconst d_L_law_534 (v := 2) ic_2 (q := 535) rfl ?_
    refine zIadd d_L_law_535 (q := 536) rfl ?_
    refine zSld d_L_law_536 (nI_add i 2) (by omega) hL31 (q := 537) rfl ?_
    refine zCallVP d_L_law_537 ml_L_62 k_X11_mean ki_X11_mean ks_X11_mean (sp_X11_mean0 (d := d - 1) (by omega) hr) rfl rfl sh_0 (by decide) rfl (by decide) (Nat.le_of_ble_eq_true rfl) (by decide) (by omega) zns0 (q := 540) rfl ?_
    refine zAloadN d_L_law_540 rfl rfl (q := 541) rfl ?_
    refine zAloadN d_L_law_541 rfl rfl (q := 542) rfl ?_
    refine zIloadN d_L_law_542 rfl rfl (q := 543) rfl ?_
    refine zIconst d_L_law_543 (v := 1) ic_1 (q := 544) rfl ?_
    refine zIadd d_L_law_544 (q := 545) rfl ?_
    refine zSld d_L_law_545 (nI_add i 1) (by omega) hL31 (q := 546) rfl ?_
    refine zAloadN d_L_law_546 rfl rfl (q := 547) rfl ?_
    refine zIloadN d_L_law_547 rfl rfl (q := 548) rfl ?_
    refine zIconst d_L_law_548 (v := 2) ic_2 (q := 549) rfl ?_
    refine zIadd d_L_law_549 (q := 550) rfl ?_
    refine zSld d_L_law_550 (nI_add i 2) (by omega) hL31 (q := 551) rfl ?_
    refine zCallVP d_L_law_551 ml_L_65 k_X12_mean ki_X12_mean ks_X12_mean (sp_X12_mean0 (d := d - 1) (by omega) hr) rfl rfl sh_64 (by decide) rfl (by decide) (Nat.le_of_ble_eq_true rfl) (by decide) (by omega) zns0 (q := 554) rfl ?_
    refine zLcmp d_L_law_554 (q := 555) rfl ?_
    refine zIf_eq d_L_law_555 (tgt := 1418) (q := 558) (by decide) rfl (fun h555 => ?_) (fun h => absurd ((lg_cmp_eq _ _).mpr rfl) h)
    refine zSub [0, 1, 2, 3] rfl ?_
    exact K0 _ _ _ _ _ hv
theorem lw_drawn (hd : 100 ≤ d) (hL31 : zgL g < 2 ^ 31) (hi : i + 6 ≤ zgL g) (hv : zIv I L h h2) (K0 : zLwK g l d i Q) : zLA g l d I L (h, h2, o) 830 [(3, .int (nI i)), (0, .ref 1004), (1, .ref 0), (2, .ref 64)] Q := by
  obtain ⟨ns, nt, nh, nb, dn, al, m, ks, pg, hc, hM⟩ := id hv
  have hh : h = 54 ∨ h = 59 := by have := hc.2.2.2.2.2.1; omega
  by_cases hr : 0 ≤ zgX g (i + 2) ∧ zgX g (i + 2) < 6
  · obtain ⟨k, hk, ek⟩ := zn1 (x := zgX g (i + 2)) (n := 6) (by decide) hr.1 hr.2
    obtain ⟨sz, hsz, em⟩ := (hc.2.1.2.2.2 k hk).2
    by_cases k1 : (1 ≤ zgX g (i + 3) ∧ zgX g (i + 3) ≤ 30) ∧ (zgX g (i + 4) = -1 ∨ 0 ≤ zgX g (i + 4) ∧ zgX g (i + 4) < nI ns)
    · by_cases k2 : I (42 + 2 * k) 1 = 0
      ·
        refine zAloadN d_L_law_830 rfl rfl (q := 831) rfl ?_
        refine zAloadN d_L_law_831 rfl rfl (q := 832) rfl ?_
        refine zIloadN d_L_law_832 rfl rfl (q := 833) rfl ?_
        refine zIconst d_L_law_833 (v := 1) ic_1 (q := 834) rfl ?_
        refine zIadd d_L_law_834 (q := 835) rfl ?_
        refine zSld d_L_law_835 (nI_add i 1) (by omega) hL31 (q := 836) rfl ?_
        refine zAloadN d_L_law_836 rfl rfl (q := 837) rfl ?_
        refine zIloadN d_L_law_837 rfl rfl (q := 838) rfl ?_
        refine zIconst d_L_law_838 (v := 2) ic_2 (q := 839) rfl ?_
        refine zIadd d_L_law_839 (q := 840) rfl ?_
        refine zSld d_L_law_840 (nI_add i 2) (by omega) hL31 (q := 841) rfl ?_
        rw [ek]
        refine zAloadN d_L_law_841 rfl rfl (q := 842) rfl ?_
        refine zIloadN d_L_law_842 rfl rfl (q := 843) rfl ?_
        refine zIconst d_L_law_843 (v := 3) ic_3 (q := 844) rfl ?_
        refine zIadd d_L_law_844 (q := 845) rfl ?_
        refine zSld d_L_law_845 (nI_add i 3) (by omega) hL31 (q := 846) rfl ?_
        refine zAloadN d_L_law_846 rfl rfl (q := 847) rfl ?_
        refine zIloadN d_L_law_847 rfl rfl (q := 848) rfl ?_
        refine zIconst d_L_law_848 (v := 4) ic_4 (q := 849) rfl ?_
        refine zIadd d_L_law_849 (q := 850) rfl ?_
        refine zSld d_L_law_850 (nI_add i 4) (by omega) hL31 (q := 851) rfl ?_
        refine zCallVX d_L_law_851 ml_L_106 k_X11_drawn ki_X11_drawn ks_X11_drawn (sp_X11_drawn (d := d - 1) (by omega) hc.1.1 hk em hsz hh hc.2.2.2.2.2.2) rfl rfl sh_0 (by decide) rfl (by decide) (Nat.le_of_ble_eq_true rfl) (by decide) (by omega) zns0 (q := 854) rfl (fun x w' hw' => ?_)
        obtain ⟨-, -, rfl, J, rfl, hJ⟩ := (hw'.resolve_left (fun z => z.1 k1)).resolve_left (fun z => z.2.1 k2)
        have hM1 : zMd J L I L pg := zMd_low (fun a ha => hJ a (by omega) (by omega) (by omega)) rfl hM
        refine zAloadN d_L_law_854 rfl rfl (q := 855) rfl ?_
        refine zAloadN d_L_law_855 rfl rfl (q := 856) rfl ?_
        refine zIloadN d_L_law_856 rfl rfl (q := 857) rfl ?_
        refine zIconst d_L_law_857 (v := 1) ic_1 (q := 858) rfl ?_
        refine zIadd d_L_law_858 (q := 859) rfl ?_
        refine zSld d_L_law_859 (nI_add i 1) (by omega) hL31 (q := 860) rfl ?_
        refine zAloadN d_L_law_860 rfl rfl (q := 861) rfl ?_
        refine zIloadN d_L_law_861 rfl rfl (q := 862) rfl ?_
        refine zIconst d_L_law_862 (v := 2) ic_2 (q := 863) rfl ?_
        refine zIadd d_L_law_863 (q := 864) rfl ?_
        refine zSld d_L_law_864 (nI_add i 2) (by omega) hL31 (q := 865) rfl ?_
        rw [ek]
        refine zAloadN d_L_law_865 rfl rfl (q := 866) rfl ?_
        refine zIloadN d_L_law_866 rfl rfl (q := 867) rfl ?_
        refine zIconst d_L_law_867 (v := 3) ic_3 (q := 868) rfl ?_
        refine zIadd d_L_law_868 (q := 869) rfl ?_
        refine zSld d_L_law_869 (nI_add i 3) (by omega) hL31 (q := 870) rfl ?_
        refine zAloadN d_L_law_870 rfl rfl (q := 871) rfl ?_
        refine zIloadN d_L_law_871 rfl rfl (q := 872) rfl ?_
        refine zIconst d_L_law_872 (v := 4) ic_4 (q := 873) rfl ?_
        refine zIadd d_L_law_873 (q := 874) rfl ?_
        refine zSld d_L_law_874 (nI_add i 4) (by omega) hL31 (q := 875) rfl ?_
        refine zCallVX d_L_law_875 ml_L_110 k_X12_drawn ki_X12_drawn ks_X12_drawn (sp_X12_drawn (V := I) (K := L) (nb := nb) (d := d - 1) (by omega) hM1.1 hc.1.1 hc.1.2 hM1.2.2.2.2.2.1 hc.2.1.2.2.2 hc.2.1.2.1 hM1.2.2.2.2.2.2 hk em hsz) rfl rfl sh_64 (by decide) rfl (by decide) (Nat.le_of_ble_eq_true rfl) (by decide) (by omega) zns0 (q := 878) rfl (fun x w' hw' => ?_)
        obtain ⟨-, -, rfl, J2, rfl, hS⟩ := (hw'.resolve_left (fun z => z.1 k1)).resolve_left (fun z => z.2.1 k2)
        refine zIcmp_eq d_L_law_878 (tgt := 1418) (q := 881) (by decide) rfl (fun h878 => ?_) (fun h => absurd rfl h)
        refine zSub [0, 1, 2, 3] rfl ?_
        exact K0 _ _ _ _ _ (zIv_next (V' := I) hc (fun a ha => (hS.1 a (by omega) (by omega)).trans (hJ a (by omega) (by omega) (by omega))) (zScr_d hS hM1) (fun _ _ _ => rfl))
      ·
        refine zAloadN d_L_law_830 rfl rfl (q := 831) rfl ?_
        refine zAloadN d_L_law_831 rfl rfl (q := 832) rfl ?_
        refine zIloadN d_L_law_832 rfl rfl (q := 833) rfl ?_
        refine zIconst d_L_law_833 (v := 1) ic_1 (q := 834) rfl ?_
        refine zIadd d_L_law_834 (q := 835) rfl ?_
        refine zSld d_L_law_835 (nI_add i 1) (by omega) hL31 (q := 836) rfl ?_
        refine zAloadN d_L_law_836 rfl rfl (q := 837) rfl ?_
        refine zIloadN d_L_law_837 rfl rfl (q := 838) rfl ?_
        refine zIconst d_L_law_838 (v := 2) ic_2 (q := 839) rfl ?_
        refine zIadd d_L_law_839 (q := 840) rfl ?_
        refine zSld d_L_law_840 (nI_add i 2) (by omega) hL31 (q := 841) rfl ?_
        rw [ek]
        refine zAloadN d_L_law_841 rfl rfl (q := 842) rfl ?_
        refine zIloadN d_L_law_842 rfl rfl (q := 843) rfl ?_
        refine zIconst d_L_law_843 (v := 3) ic_3 (q := 844) rfl ?_
        refine zIadd d_L_law_844 (q := 845) rfl ?_
        refine zSld d_L_law_845 (nI_add i 3) (by omega) hL31 (q := 846) rfl ?_
        refine zAloadN d_L_law_846 rfl rfl (q := 847) rfl ?_
        refine zIloadN d_L_law_847 rfl rfl (q := 848) rfl ?_
        refine zIconst d_L_law_848 (v := 4) ic_4 (q := 849) rfl ?_
        refine zIadd d_L_law_849 (q := 850) rfl ?_
        refine zSld d_L_law_850 (nI_add i 4) (by omega) hL31 (q := 851) rfl ?_
        refine zCallVX d_L_law_851 ml_L_106 k_X11_drawn ki_X11_drawn ks_X11_drawn (sp_X11_drawn (d := d - 1) (by omega) hc.1.1 hk em hsz hh hc.2.2.2.2.2.2) rfl rfl sh_0 (by decide) rfl (by decide) (Nat.le_of_ble_eq_true rfl) (by decide) (by omega) zns0 (q := 854) rfl (fun x w' hw' => ?_)
        obtain ⟨-, -, rfl, rfl⟩ := (hw'.resolve_left (fun z => z.1 k1)).resolve_right (fun z => k2 z.2.1)
        refine zAloadN d_L_law_854 rfl rfl (q := 855) rfl ?_
        refine zAloadN d_L_law_855 rfl rfl (q := 856) rfl ?_
        refine zIloadN d_L_law_856 rfl rfl (q := 857) rfl ?_
        refine zIconst d_L_law_857 (v := 1) ic_1 (q := 858) rfl ?_
        refine zIadd d_L_law_858 (q := 859) rfl ?_
        refine zSld d_L_law_859 (nI_add i 1) (by omega) hL31 (q := 860) rfl ?_
        refine zAloadN d_L_law_860 rfl rfl (q := 861) rfl ?_
        refine zIloadN d_L_law_861 rfl rfl (q := 862) rfl ?_
        refine zIconst d_L_law_862 (v := 2) ic_2 (q := 863) rfl ?_
        refine zIadd d_L_law_863 (q := 864) rfl ?_
        refine zSld d_L_law_864 (nI_add i 2) (by omega) hL31 (q := 865) rfl ?_
        rw [ek]
        refine zAloadN d_L_law_865 rfl rfl (q := 866) rfl ?_
        refine zIloadN d_L_law_866 rfl rfl (q := 867) rfl ?_
        refine zIconst d_L_law_867 (v := 3) ic_3 (q := 868) rfl ?_
        refine zIadd d_L_law_868 (q := 869) rfl ?_
        refine zSld d_L_law_869 (nI_add i 3) (by omega) hL31 (q := 870) rfl ?_
        refine zAloadN d_L_law_870 rfl rfl (q := 871) rfl ?_
        refine zIloadN d_L_law_871 rfl rfl (q := 872) rfl ?_
        refine zIconst d_L_law_872 (v := 4) ic_4 (q := 873) rfl ?_
        refine zIadd d_L_law_873 (q := 874) rfl ?_
        refine zSld d_L_law_874 (nI_add i 4) (by omega) hL31 (q := 875) rfl ?_
        refine zCallVX d_L_law_875 ml_L_110 k_X12_drawn ki_X12_drawn ks_X12_drawn (sp_X12_drawn (V := I) (K := L) (nb := nb) (d := d - 1) (by omega) hM.1 hc.1.1 hc.1.2 hM.2.2.2.2.2.1 hc.2.1.2.2.2 hc.2.1.2.1 hM.2.2.2.2.2.2 hk em hsz) rfl rfl sh_64 (by decide) rfl (by decide) (Nat.le_of_ble_eq_true rfl) (by decide) (by omega) zns0 (q := 878) rfl (fun x w' hw' => ?_)
        obtain ⟨-, -, rfl, rfl⟩ := (hw'.resolve_left (fun z => z.1 k1)).resolve_right (fun z => k2 z.2.1)
        refine zIcmp_eq d_L_law_878 (tgt := 1418) (q := 881) (by decide) rfl (fun h878 => ?_) (fun h => absurd rfl h)
        refine zSub [0, 1, 2, 3] rfl ?_
        exact K0 _ _ _ _ _ hv
    ·
      refine zAloadN d_L_law_830 rfl rfl (q := 831) rfl ?_
      refine zAloadN d_L_law_831 rfl rfl (q := 832) rfl ?_
      refine zIloadN d_L_law_832 rfl rfl (q := 833) rfl ?_
      refine zIconst d_L_law_833 (v := 1) ic_1 (q := 834) rfl ?_
      refine zIadd d_L_law_834 (q := 835) rfl ?_
      refine zSld d_L_law_835 (nI_add i 1) (by omega) hL31 (q := 836) rfl ?_
      refine zAloadN d_L_law_836 rfl rfl (q := 837) rfl ?_
      refine zIloadN d_L_law_837 rfl rfl (q := 838) rfl ?_
      refine zIconst d_L_law_838 (v := 2) ic_2 (q := 839) rfl ?_
      refine zIadd d_L_law_839 (q := 840) rfl ?_
      refine zSld d_L_law_840 (nI_add i 2) (by omega) hL31 (q := 841) rfl ?_
      rw [ek]
      refine zAloadN d_L_law_841 rfl rfl (q := 842) rfl ?_
      refine zIloadN d_L_law_842 rfl rfl (q := 843) rfl ?_
      refine zIconst d_L_law_843 (v := 3) ic_3 (q := 844) rfl ?_
      refine zIadd d_L_law_844 (q := 845) rfl ?_
      refine zSld d_L_law_845 (nI_add i 3) (by omega) hL31 (q := 846) rfl ?_
      refine zAloadN d_L_law_846 rfl rfl (q := 847) rfl ?_
      refine zIloadN d_L_law_847 rfl rfl (q := 848) rfl ?_
      refine zIconst d_L_law_848 (v := 4) ic_4 (q := 849) rfl ?_
      refine zIadd d_L_law_849 (q := 850) rfl ?_
      refine zSld d_L_law_850 (nI_add i 4) (by omega) hL31 (q := 851) rfl ?_
      refine zCallVX d_L_law_851 ml_L_106 k_X11_drawn ki_X11_drawn ks_X11_drawn (sp_X11_drawn (d := d - 1) (by omega) hc.1.1 hk em hsz hh hc.2.2.2.2.2.2) rfl rfl sh_0 (by decide) rfl (by decide) (Nat.le_of_ble_eq_true rfl) (by decide) (by omega) zns0 (q := 854) rfl (fun x w' hw' => ?_)
      obtain ⟨-, rfl, rfl⟩ := hw'.resolve_right (fun z => by rcases z with z | z <;> exact k1 z.1)
      refine zAloadN d_L_law_854 rfl rfl (q := 855) rfl ?_
      refine zAloadN d_L_law_855 rfl rfl (q := 856) rfl ?_
      refine zIloadN d_L_law_856 rfl rfl (q := 857) rfl ?_
      refine zIconst d_L_law_857 (v := 1) ic_1 (q := 858) rfl ?_
      refine zIadd d_L_law_858 (q := 859) rfl ?_
      refine zSld d_L_law_859 (nI_add i 1) (by omega) hL31 (q := 860) rfl ?_
      refine zAloadN d_L_law_860 rfl rfl (q := 861) rfl ?_
      refine zIloadN d_L_law_861 rfl rfl (q := 862) rfl ?_
      refine zIconst d_L_law_862 (v := 2) ic_2 (q := 863) rfl ?_
      refine zIadd d_L_law_863 (q := 864) rfl ?_
      refine zSld d_L_law_864 (nI_add i 2) (by omega) hL31 (q := 865) rfl ?_
      rw [ek]
      refine zAloadN d_L_law_865 rfl rfl (q := 866) rfl ?_
      refine zIloadN d_L_law_866 rfl rfl (q := 867) rfl ?_
      refine zIconst d_L_law_867 (v := 3) ic_3 (q := 868) rfl ?_
      refine zIadd d_L_law_868 (q := 869) rfl ?_
      refine zSld d_L_law_869 (nI_add i 3) (by omega) hL31 (q := 870) rfl ?_
      refine zAloadN d_L_law_870 rfl rfl (q := 871) rfl ?_
      refine zIloadN d_L_law_871 rfl rfl (q := 872) rfl ?_
      refine zIconst d_L_law_872 (v := 4) ic_4 (q := 873) rfl ?_
      refine zIadd d_L_law_873 (q := 874) rfl ?_
      refine zSld d_L_law_874 (nI_add i 4) (by omega) hL31 (q := 875) rfl ?_
      refine zCallVX d_L_law_875 ml_L_110 k_X12_drawn ki_X12_drawn ks_X12_drawn (sp_X12_drawn (V := I) (K := L) (nb := nb) (d := d - 1) (by omega) hM.1 hc.1.1 hc.1.2 hM.2.2.2.2.2.1 hc.2.1.2.2.2 hc.2.1.2.1 hM.2.2.2.2.2.2 hk em hsz) rfl rfl sh_64 (by decide) rfl (by decide) (Nat.le_of_ble_eq_true rfl) (by decide) (by omega) zns0 (q := 878) rfl (fun x w' hw' => ?_)
      obtain ⟨-, rfl, rfl⟩ := hw'.resolve_right (fun z => by rcases z with z | z <;> exact k1 z.1)
      refine zIcmp_eq d_L_law_878 (tgt := 1418) (q := 881) (by decide) rfl (fun h878 => ?_) (fun h => absurd rfl h)
      refine zSub [0, 1, 2, 3] rfl ?_
      exact K0 _ _ _ _ _ hv
  ·
    refine zAloadN d_L_law_830 rfl rfl (q := 831) rfl ?_
    refine zAloadN d_L_law_831 rfl rfl (q := 832) rfl ?_
    refine zIloadN d_L_law_832 rfl rfl (q := 833) rfl ?_
    refine zIconst d_L_law_833 (v := 1) ic_1 (q := 834) rfl ?_
    refine zIadd d_L_law_834 (q := 835) rfl ?_
    refine zSld d_L_law_835 (nI_add i 1) (by omega) hL31 (q := 836) rfl ?_
    refine zAloadN d_L_law_836 rfl rfl (q := 837) rfl ?_
    refine zIloadN d_L_law_837 rfl rfl (q := 838) rfl ?_
    refine zIconst d_L_law_838 (v := 2) ic_2 (q := 839) rfl ?_
    refine zIadd d_L_law_839 (q := 840) rfl ?_
    refine zSld d_L_law_840 (nI_add i 2) (by omega) hL31 (q := 841) rfl ?_
    refine zAloadN d_L_law_841 rfl rfl (q := 842) rfl ?_
    refine zIloadN d_L_law_842 rfl rfl (q := 843) rfl ?_
    refine zIconst d_L_law_843 (v := 3) ic_3 (q := 844) rfl ?_
    refine zIadd d_L_law_844 (q := 845) rfl ?_
    refine zSld d_L_law_845 (nI_add i 3) (by omega) hL31 (q := 846) rfl ?_
    refine zAloadN d_L_law_846 rfl rfl (q := 847) rfl ?_
    refine zIloadN d_L_law_847 rfl rfl (q := 848) rfl ?_
    refine zIconst d_L_law_848 (v := 4) ic_4 (q := 849) rfl ?_
    refine zIadd d_L_law_849 (q := 850) rfl ?_
    refine zSld d_L_law_850 (nI_add i 4) (by omega) hL31 (q := 851) rfl ?_
    refine zCallVP d_L_law_851 ml_L_106 k_X11_drawn ki_X11_drawn ks_X11_drawn (sp_X11_drawn0 (d := d - 1) (by omega) hr) rfl rfl sh_0 (by decide) rfl (by decide) (Nat.le_of_ble_eq_true rfl) (by decide) (by omega) zns0 (q := 854) rfl ?_
    refine zAloadN d_L_law_854 rfl rfl (q := 855) rfl ?_
    refine zAloadN d_L_law_855 rfl rfl (q := 856) rfl ?_
    refine zIloadN d_L_law_856 rfl rfl (q := 857) rfl ?_
    refine zIconst d_L_law_857 (v := 1) ic_1 (q := 858) rfl ?_
    refine zIadd d_L_law_858 (q := 859) rfl ?_
    refine zSld d_L_law_859 (nI_add i 1) (by omega) hL31 (q := 860) rfl ?_
    refine zAloadN d_L_law_860 rfl rfl (q := 861) rfl ?_
    refine zIloadN d_L_law_861 rfl rfl (q := 862) rfl ?_
    refine zIconst d_L_law_862 (v := 2) ic_2 (q := 863) rfl ?_
    refine zIadd d_L_law_863 (q := 864) rfl ?_
    refine zSld d_L_law_864 (nI_add i 2) (by omega) hL31 (q := 865) rfl ?_
    refine zAloadN d_L_law_865 rfl rfl (q := 866) rfl ?_
    refine zIloadN d_L_law_866 rfl rfl (q := 867) rfl ?_
    refine zIconst d_L_law_867 (v := 3) ic_3 (q := 868) rfl ?_
    refine zIadd d_L_law_868 (q := 869) rfl ?_
    refine zSld d_L_law_869 (nI_add i 3) (by omega) hL31 (q := 870) rfl ?_
    refine zAloadN d_L_law_870 rfl rfl (q := 871) rfl ?_
    refine zIloadN d_L_law_871 rfl rfl (q := 872) rfl ?_
    refine zIconst d_L_law_872 (v := 4) ic_4 (q := 873) rfl ?_
    refine zIadd d_L_law_873 (q := 874) rfl ?_
    refine zSld d_L_law_874 (nI_add i 4) (by omega) hL31 (q := 875) rfl ?_
    refine zCallVP d_L_law_875 ml_L_110 k_X12_drawn ki_X12_drawn ks_X12_drawn (sp_X12_drawn0 (d := d - 1) (by omega) hr) rfl rfl sh_64 (by decide) rfl (by decide) (Nat.le_of_ble_eq_true rfl) (by decide) (by omega) zns0 (q := 878) rfl ?_
    refine zIcmp_eq d_L_law_878 (tgt := 1418) (q := 881) (by decide) rfl (fun h878 => ?_) (fun h => absurd rfl h)
    refine zSub [0, 1, 2, 3] rfl ?_
    exact K0 _ _ _ _ _ hv
end S89

