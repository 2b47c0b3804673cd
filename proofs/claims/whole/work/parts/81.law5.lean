/-! THE LAW: MORE QUESTIONS -/
theorem zMd_dr {I J V : Nat → Nat → Int32} {L K : Nat → Nat → Int64} {pg : Option (List zLine)} (hJ : ∀ a, (a < 85 ∨ 91 < a) → J a = I a) (hM : zMd I L V K pg) : zMd J L V K pg :=
  ⟨zMs_ex ⟨by rw [hJ 64 (by decide)], by rw [hJ 64 (by decide)], by rw [hJ 64 (by decide)]⟩ (fun a ha => hJ a (by omega)) (fun _ _ => rfl) hM.1,
   zMt_ex (by rw [hJ 64 (by decide)]) (hJ _ (by decide)) ⟨rfl, rfl⟩ hM.2.1,
   zMc_ex ⟨by rw [hJ 64 (by decide)], by rw [hJ 64 (by decide)]⟩ (fun a ha => hJ a (by omega)) (fun _ _ => rfl) hM.2.2.1,
   zMi_ex (fun k _ => by rw [hJ 64 (by decide)]) (hJ _ (by decide)) ⟨rfl, rfl⟩ hM.2.2.2.1,
   zMa_ex ⟨by rw [hJ 64 (by decide)], by rw [hJ 64 (by decide)]⟩ ⟨hJ _ (by decide), hJ _ (by decide)⟩ ⟨rfl, rfl, rfl⟩ hM.2.2.2.2.1,
   fun k hk => by rw [hJ 97 (by decide), hJ 96 (by decide)]; exact hM.2.2.2.2.2.1 k hk,
   zMl_ex (by rw [hJ 64 (by decide)]) (fun a ha => hJ a (by omega)) hM.2.2.2.2.2.2⟩
section S81
variable {g : zG} {l : Launch} {d i h h2 : Nat} {I : Nat → Nat → Int32} {L : Nat → Nat → Int64} {o : Option Nat} {Q : Option Value → zW → Prop}
theorem lw_steer (hd : 100 ≤ d) (hL31 : zgL g < 2 ^ 31) (hi : i + 6 ≤ zgL g) (hv : zIv I L h h2) (K0 : zLwK g l d i Q) : zLA g l d I L (h, h2, o) 695 [(3, .int (nI i)), (0, .ref 1004), (1, .ref 0), (2, .ref 64)] Q := by
  obtain ⟨ns, nt, nh, nb, dn, al, m, ks, pg, hc, hM⟩ := id hv
  refine zAloadN d_L_law_695 rfl rfl (q := 696) rfl ?_
  refine zCallVP d_L_law_696 ml_L_86 k_X11_steer ki_X11_steer ks_X11_steer (sp_X11_steer (d := d - 1) (by omega) hc.1.1) rfl rfl sh_0 (by decide) rfl (by decide) (Nat.le_of_ble_eq_true rfl) (by decide) (by omega) zns0 (q := 699) rfl ?_
  refine zAloadN d_L_law_699 rfl rfl (q := 700) rfl ?_
  refine zCallVP d_L_law_700 ml_L_89 k_X12_steer ki_X12_steer ks_X12_steer (sp_X12_steer (V := I) (d := d - 1) (by omega) hM.1 hc.1.1 hc.1.2) rfl rfl sh_64 (by decide) rfl (by decide) (Nat.le_of_ble_eq_true rfl) (by decide) (by omega) zns0 (q := 703) rfl ?_
  refine zIcmp_eq d_L_law_703 (tgt := 1418) (q := 706) (by decide) rfl (fun h703 => ?_) (fun h => absurd rfl h)
  refine zSub [0, 1, 2, 3] rfl ?_
  exact K0 _ _ _ _ _ hv
theorem lw_fewest (hd : 100 ≤ d) (hL31 : zgL g < 2 ^ 31) (hi : i + 6 ≤ zgL g) (hv : zIv I L h h2) (K0 : zLwK g l d i Q) : zLA g l d I L (h, h2, o) 708 [(3, .int (nI i)), (0, .ref 1004), (1, .ref 0), (2, .ref 64)] Q := by
  obtain ⟨ns, nt, nh, nb, dn, al, m, ks, pg, hc, hM⟩ := id hv
  refine zAloadN d_L_law_708 rfl rfl (q := 709) rfl ?_
  refine zAloadN d_L_law_709 rfl rfl (q := 710) rfl ?_
  refine zIloadN d_L_law_710 rfl rfl (q := 711) rfl ?_
  refine zIconst d_L_law_711 (v := 1) ic_1 (q := 712) rfl ?_
  refine zIadd d_L_law_712 (q := 713) rfl ?_
  refine zSld d_L_law_713 (nI_add i 1) (by omega) hL31 (q := 714) rfl ?_
  refine zCallVP d_L_law_714 ml_L_90 k_X11_fewest ki_X11_fewest ks_X11_fewest (sp_X11_fewest (d := d - 1) (by omega) hc.1.1) rfl rfl sh_0 (by decide) rfl (by decide) (Nat.le_of_ble_eq_true rfl) (by decide) (by omega) zns0 (q := 717) rfl ?_
  refine zAloadN d_L_law_717 rfl rfl (q := 718) rfl ?_
  refine zAloadN d_L_law_718 rfl rfl (q := 719) rfl ?_
  refine zIloadN d_L_law_719 rfl rfl (q := 720) rfl ?_
  refine zIconst d_L_law_720 (v := 1) ic_1 (q := 721) rfl ?_
  refine zIadd d_L_law_721 (q := 722) rfl ?_
  refine zSld d_L_law_722 (nI_add i 1) (by omega) hL31 (q := 723) rfl ?_
  refine zCallVP d_L_law_723 ml_L_93 k_X12_fewest ki_X12_fewest ks_X12_fewest (sp_X12_fewest (V := I) (d := d - 1) (by omega) hM.1 hc.1.1 hc.1.2) rfl rfl sh_64 (by decide) rfl (by decide) (Nat.le_of_ble_eq_true rfl) (by decide) (by omega) zns0 (q := 726) rfl ?_
  refine zIcmp_eq d_L_law_726 (tgt := 1418) (q := 729) (by decide) rfl (fun h726 => ?_) (fun h => absurd rfl h)
  refine zSub [0, 1, 2, 3] rfl ?_
  exact K0 _ _ _ _ _ hv
theorem lw_dealt (hd : 100 ≤ d) (hL31 : zgL g < 2 ^ 31) (hi : i + 6 ≤ zgL g) (hv : zIv I L h h2) (K0 : zLwK g l d i Q) : zLA g l d I L (h, h2, o) 560 [(3, .int (nI i)), (0, .ref 1004), (1, .ref 0), (2, .ref 64)] Q := by
  obtain ⟨ns, nt, nh, nb, dn, al, m, ks, pg, hc, hM⟩ := id hv
  refine zAloadN d_L_law_560 rfl rfl (q := 561) rfl ?_
  refine zAloadN d_L_law_561 rfl rfl (q := 562) rfl ?_
  refine zIloadN d_L_law_562 rfl rfl (q := 563) rfl ?_
  refine zIconst d_L_law_563 (v := 1) ic_1 (q := 564) rfl ?_
  refine zIadd d_L_law_564 (q := 565) rfl ?_
  refine zSld d_L_law_565 (nI_add i 1) (by omega) hL31 (q := 566) rfl ?_
  refine zCallVP d_L_law_566 ml_L_66 k_X11_dealt ki_X11_dealt ks_X11_dealt (sp_X11_dealt (d := d - 1) (by omega) hc.1.1) rfl rfl sh_0 (by decide) rfl (by decide) (Nat.le_of_ble_eq_true rfl) (by decide) (by omega) zns0 (q := 569) rfl ?_
  refine zAloadN d_L_law_569 rfl rfl (q := 570) rfl ?_
  refine zAloadN d_L_law_570 rfl rfl (q := 571) rfl ?_
  refine zIloadN d_L_law_571 rfl rfl (q := 572) rfl ?_
  refine zIconst d_L_law_572 (v := 1) ic_1 (q := 573) rfl ?_
  refine zIadd d_L_law_573 (q := 574) rfl ?_
  refine zSld d_L_law_574 (nI_add i 1) (by omega) hL31 (q := 575) rfl ?_
  refine zCallVX d_L_law_575 ml_L_69 k_X12_dealt ki_X12_dealt ks_X12_dealt (sp_X12_dealt (V := I) (d := d - 1) (by omega) hM.1 hc.1.1 hc.1.2) rfl rfl sh_64 (by decide) rfl (by decide) (Nat.le_of_ble_eq_true rfl) (by decide) (by omega) zns0 (q := 578) rfl (fun x w' hw' => ?_)
  obtain ⟨hx, F, rfl⟩ := hw'
  refine zIcmp_eq d_L_law_578 (tgt := 1418) (q := 581) (by decide) rfl (fun h578 => ?_) (fun h => absurd hx.symm h)
  refine zSub [0, 1, 2, 3] rfl ?_
  exact K0 _ _ _ _ _ (zIv_next hc (fun a ha => zup_ne (by have := hc.2.2.2.2.2.1; omega)) (zMd_dr (fun a ha => zup_ne (by omega)) hM) (fun _ _ _ => rfl))
theorem lw_walk (hd : 100 ≤ d) (hL31 : zgL g < 2 ^ 31) (hi : i + 6 ≤ zgL g) (hv : zIv I L h h2) (K0 : zLwK g l d i Q) : zLA g l d I L (h, h2, o) 652 [(3, .int (nI i)), (0, .ref 1004), (1, .ref 0), (2, .ref 64)] Q := by
  obtain ⟨ns, nt, nh, nb, dn, al, m, ks, pg, hc, hM⟩ := id hv
  by_cases k1 : (0 ≤ zgX g (i + 1) ∧ zgX g (i + 1) < 24) ∧ (0 ≤ zgX g (i + 2) ∧ zgX g (i + 2) ≤ 40) ∧ 0 ≤ zgX g (i + 3) ∧ zgX g (i + 3) ≤ 1
  ·
    refine zAloadN d_L_law_652 rfl rfl (q := 653) rfl ?_
    refine zAloadN d_L_law_653 rfl rfl (q := 654) rfl ?_
    refine zIloadN d_L_law_654 rfl rfl (q := 655) rfl ?_
    refine zIconst d_L_law_655 (v := 1) ic_1 (q := 656) rfl ?_
    refine zIadd d_L_law_656 (q := 657) rfl ?_
    refine zSld d_L_law_657 (nI_add i 1) (by omega) hL31 (q := 658) rfl ?_
    refine zAloadN d_L_law_658 rfl rfl (q := 659) rfl ?_
    refine zIloadN d_L_law_659 rfl rfl (q := 660) rfl ?_
    refine zIconst d_L_law_660 (v := 2) ic_2 (q := 661) rfl ?_
    refine zIadd d_L_law_661 (q := 662) rfl ?_
    refine zSld d_L_law_662 (nI_add i 2) (by omega) hL31 (q := 663) rfl ?_
    refine zAloadN d_L_law_663 rfl rfl (q := 664) rfl ?_
    refine zIloadN d_L_law_664 rfl rfl (q := 665) rfl ?_
    refine zIconst d_L_law_665 (v := 3) ic_3 (q := 666) rfl ?_
    refine zIadd d_L_law_666 (q := 667) rfl ?_
    refine zSld d_L_law_667 (nI_add i 3) (by omega) hL31 (q := 668) rfl ?_
    refine zCallVX d_L_law_668 ml_L_82 k_X11_walk ki_X11_walk ks_X11_walk (sp_X11_walk (d := d - 1) (by omega) hc.1.1) rfl rfl sh_0 (by decide) rfl (by decide) (Nat.le_of_ble_eq_true rfl) (by decide) (by omega) zns0 (q := 671) rfl (fun x w' hw' => ?_)
    obtain ⟨-, rfl, F, G, rfl⟩ := hw'.resolve_left (fun z => z.1 k1)
    refine zAloadN d_L_law_671 rfl rfl (q := 672) rfl ?_
    refine zAloadN d_L_law_672 rfl rfl (q := 673) rfl ?_
    refine zIloadN d_L_law_673 rfl rfl (q := 674) rfl ?_
    refine zIconst d_L_law_674 (v := 1) ic_1 (q := 675) rfl ?_
    refine zIadd d_L_law_675 (q := 676) rfl ?_
    refine zSld d_L_law_676 (nI_add i 1) (by omega) hL31 (q := 677) rfl ?_
    refine zAloadN d_L_law_677 rfl rfl (q := 678) rfl ?_
    refine zIloadN d_L_law_678 rfl rfl (q := 679) rfl ?_
    refine zIconst d_L_law_679 (v := 2) ic_2 (q := 680) rfl ?_
    refine zIadd d_L_law_680 (q := 681) rfl ?_
    refine zSld d_L_law_681 (nI_add i 2) (by omega) hL31 (q := 682) rfl ?_
    refine zAloadN d_L_law_682 rfl rfl (q := 683) rfl ?_
    refine zIloadN d_L_law_683 rfl rfl (q := 684) rfl ?_
    refine zIconst d_L_law_684 (v := 3) ic_3 (q := 685) rfl ?_
    refine zIadd d_L_law_685 (q := 686) rfl ?_
    refine zSld d_L_law_686 (nI_add i 3) (by omega) hL31 (q := 687) rfl ?_
    refine zCallVP d_L_law_687 ml_L_85 k_X12_walk ki_X12_walk ks_X12_walk (sp_X12_walk (V := I) (d := d - 1) (by omega) (zMd_low (L := L) (L' := L) (K := L) (pg := pg) (fun a ha ↦ by rw [zup_ne (by omega), zup_ne (by omega)]) rfl hM).1 hc.1.1 hc.1.2) rfl rfl sh_64 (by decide) rfl (by decide) (Nat.le_of_ble_eq_true rfl) (by decide) (by omega) zns0 (q := 690) rfl ?_
    refine zIcmp_eq d_L_law_690 (tgt := 1418) (q := 693) (by decide) rfl (fun h690 => ?_) (fun h => absurd (if_neg (not_not_intro k1)).symm h)
    refine zSub [0, 1, 2, 3] rfl ?_
    exact K0 _ _ _ _ _ (zIv_next (V' := I) hc (fun a ha => by have := hc.2.2.2.2.2.1; rw [zup_ne (by omega), zup_ne (by omega)]) (zMd_low (fun a ha => by rw [zup_ne (by omega), zup_ne (by omega)]) rfl hM) (fun _ _ _ => rfl))
  ·
    refine zAloadN d_L_law_652 rfl rfl (q := 653) rfl ?_
    refine zAloadN d_L_law_653 rfl rfl (q := 654) rfl ?_
    refine zIloadN d_L_law_654 rfl rfl (q := 655) rfl ?_
    refine zIconst d_L_law_655 (v := 1) ic_1 (q := 656) rfl ?_
    refine zIadd d_L_law_656 (q := 657) rfl ?_
    refine zSld d_L_law_657 (nI_add i 1) (by omega) hL31 (q := 658) rfl ?_
    refine zAloadN d_L_law_658 rfl rfl (q := 659) rfl ?_
    refine zIloadN d_L_law_659 rfl rfl (q := 660) rfl ?_
    refine zIconst d_L_law_660 (v := 2) ic_2 (q := 661) rfl ?_
    refine zIadd d_L_law_661 (q := 662) rfl ?_
    refine zSld d_L_law_662 (nI_add i 2) (by omega) hL31 (q := 663) rfl ?_
    refine zAloadN d_L_law_663 rfl rfl (q := 664) rfl ?_
    refine zIloadN d_L_law_664 rfl rfl (q := 665) rfl ?_
    refine zIconst d_L_law_665 (v := 3) ic_3 (q := 666) rfl ?_
    refine zIadd d_L_law_666 (q := 667) rfl ?_
    refine zSld d_L_law_667 (nI_add i 3) (by omega) hL31 (q := 668) rfl ?_
    refine zCallVX d_L_law_668 ml_L_82 k_X11_walk ki_X11_walk ks_X11_walk (sp_X11_walk (d := d - 1) (by omega) hc.1.1) rfl rfl sh_0 (by decide) rfl (by decide) (Nat.le_of_ble_eq_true rfl) (by decide) (by omega) zns0 (q := 671) rfl (fun x w' hw' => ?_)
    obtain ⟨-, rfl, rfl⟩ := hw'.resolve_right (fun z => k1 z.1)
    refine zAloadN d_L_law_671 rfl rfl (q := 672) rfl ?_
    refine zAloadN d_L_law_672 rfl rfl (q := 673) rfl ?_
    refine zIloadN d_L_law_673 rfl rfl (q := 674) rfl ?_
    refine zIconst d_L_law_674 (v := 1) ic_1 (q := 675) rfl ?_
    refine zIadd d_L_law_675 (q := 676) rfl ?_
    refine zSld d_L_law_676 (nI_add i 1) (by omega) hL31 (q := 677) rfl ?_
    refine zAloadN d_L_law_677 rfl rfl (q := 678) rfl ?_
    refine zIloadN d_L_law_678 rfl rfl (q := 679) rfl ?_
    refine zIconst d_L_law_679 (v := 2) ic_2 (q := 680) rfl ?_
    refine zIadd d_L_law_680 (q := 681) rfl ?_
    refine zSld d_L_law_681 (nI_add i 2) (by omega) hL31 (q := 682) rfl ?_
    refine zAloadN d_L_law_682 rfl rfl (q := 683) rfl ?_
    refine zIloadN d_L_law_683 rfl rfl (q := 684) rfl ?_
    refine zIconst d_L_law_684 (v := 3) ic_3 (q := 685) rfl ?_
    refine zIadd d_L_law_685 (q := 686) rfl ?_
    refine zSld d_L_law_686 (nI_add i 3) (by omega) hL31 (q := 687) rfl ?_
    refine zCallVP d_L_law_687 ml_L_85 k_X12_walk ki_X12_walk ks_X12_walk (sp_X12_walk (V := I) (d := d - 1) (by omega) hM.1 hc.1.1 hc.1.2) rfl rfl sh_64 (by decide) rfl (by decide) (Nat.le_of_ble_eq_true rfl) (by decide) (by omega) zns0 (q := 690) rfl ?_
    refine zIcmp_eq d_L_law_690 (tgt := 1418) (q := 693) (by decide) rfl (fun h690 => ?_) (fun h => absurd (if_pos k1).symm h)
    refine zSub [0, 1, 2, 3] rfl ?_
    exact K0 _ _ _ _ _ hv
theorem lw_byTurns (hd : 100 ≤ d) (hL31 : zgL g < 2 ^ 31) (hi : i + 6 ≤ zgL g) (hv : zIv I L h h2) (K0 : zLwK g l d i Q) : zLA g l d I L (h, h2, o) 797 [(3, .int (nI i)), (0, .ref 1004), (1, .ref 0), (2, .ref 64)] Q := by
  obtain ⟨ns, nt, nh, nb, dn, al, m, ks, pg, hc, hM⟩ := id hv
  by_cases k1 : (1 ≤ zgX g (i + 1) ∧ zgX g (i + 1) ≤ 4) ∧ 0 ≤ zgX g (i + 2) ∧ zgX g (i + 2) ≤ 1
  ·
    refine zAloadN d_L_law_797 rfl rfl (q := 798) rfl ?_
    refine zAloadN d_L_law_798 rfl rfl (q := 799) rfl ?_
    refine zIloadN d_L_law_799 rfl rfl (q := 800) rfl ?_
    refine zIconst d_L_law_800 (v := 1) ic_1 (q := 801) rfl ?_
    refine zIadd d_L_law_801 (q := 802) rfl ?_
    refine zSld d_L_law_802 (nI_add i 1) (by omega) hL31 (q := 803) rfl ?_
    refine zAloadN d_L_law_803 rfl rfl (q := 804) rfl ?_
    refine zIloadN d_L_law_804 rfl rfl (q := 805) rfl ?_
    refine zIconst d_L_law_805 (v := 2) ic_2 (q := 806) rfl ?_
    refine zIadd d_L_law_806 (q := 807) rfl ?_
    refine zSld d_L_law_807 (nI_add i 2) (by omega) hL31 (q := 808) rfl ?_
    refine zCallVX d_L_law_808 ml_L_102 k_X11_byTurns ki_X11_byTurns ks_X11_byTurns (sp_X11_byTurns (d := d - 1) (by omega) hc.1.1) rfl rfl sh_0 (by decide) rfl (by decide) (Nat.le_of_ble_eq_true rfl) (by decide) (by omega) zns0 (q := 811) rfl (fun x w' hw' => ?_)
    obtain ⟨-, rfl, J, rfl, hJ⟩ := hw'.resolve_left (fun z => z.1 k1)
    refine zAloadN d_L_law_811 rfl rfl (q := 812) rfl ?_
    refine zAloadN d_L_law_812 rfl rfl (q := 813) rfl ?_
    refine zIloadN d_L_law_813 rfl rfl (q := 814) rfl ?_
    refine zIconst d_L_law_814 (v := 1) ic_1 (q := 815) rfl ?_
    refine zIadd d_L_law_815 (q := 816) rfl ?_
    refine zSld d_L_law_816 (nI_add i 1) (by omega) hL31 (q := 817) rfl ?_
    refine zAloadN d_L_law_817 rfl rfl (q := 818) rfl ?_
    refine zIloadN d_L_law_818 rfl rfl (q := 819) rfl ?_
    refine zIconst d_L_law_819 (v := 2) ic_2 (q := 820) rfl ?_
    refine zIadd d_L_law_820 (q := 821) rfl ?_
    refine zSld d_L_law_821 (nI_add i 2) (by omega) hL31 (q := 822) rfl ?_
    refine zCallVP d_L_law_822 ml_L_105 k_X12_byTurns ki_X12_byTurns ks_X12_byTurns (sp_X12_byTurns (V := I) (d := d - 1) (by omega) (zMd_low (L := L) (L' := L) (K := L) (pg := pg) (fun a ha ↦ hJ a (by omega)) rfl hM).1 hc.1.1 hc.1.2) rfl rfl sh_64 (by decide) rfl (by decide) (Nat.le_of_ble_eq_true rfl) (by decide) (by omega) zns0 (q := 825) rfl ?_
    refine zIcmp_eq d_L_law_825 (tgt := 1418) (q := 828) (by decide) rfl (fun h825 => ?_) (fun h => absurd (if_neg (not_not_intro k1)).symm h)
    refine zSub [0, 1, 2, 3] rfl ?_
    exact K0 _ _ _ _ _ (zIv_next (V' := I) hc (fun a ha => hJ a (by have := hc.2.2.2.2.2.1; omega)) (zMd_low (fun a ha => hJ a (by omega)) rfl hM) (fun _ _ _ => rfl))
  ·
    refine zAloadN d_L_law_797 rfl rfl (q := 798) rfl ?_
    refine zAloadN d_L_law_798 rfl rfl (q := 799) rfl ?_
    refine zIloadN d_L_law_799 rfl rfl (q := 800) rfl ?_
    refine zIconst d_L_law_800 (v := 1) ic_1 (q := 801) rfl ?_
    refine zIadd d_L_law_801 (q := 802) rfl ?_
    refine zSld d_L_law_802 (nI_add i 1) (by omega) hL31 (q := 803) rfl ?_
    refine zAloadN d_L_law_803 rfl rfl (q := 804) rfl ?_
    refine zIloadN d_L_law_804 rfl rfl (q := 805) rfl ?_
    refine zIconst d_L_law_805 (v := 2) ic_2 (q := 806) rfl ?_
    refine zIadd d_L_law_806 (q := 807) rfl ?_
    refine zSld d_L_law_807 (nI_add i 2) (by omega) hL31 (q := 808) rfl ?_
    refine zCallVX d_L_law_808 ml_L_102 k_X11_byTurns ki_X11_byTurns ks_X11_byTurns (sp_X11_byTurns (d := d - 1) (by omega) hc.1.1) rfl rfl sh_0 (by decide) rfl (by decide) (Nat.le_of_ble_eq_true rfl) (by decide) (by omega) zns0 (q := 811) rfl (fun x w' hw' => ?_)
    obtain ⟨-, rfl, rfl⟩ := hw'.resolve_right (fun z => k1 z.1)
    refine zAloadN d_L_law_811 rfl rfl (q := 812) rfl ?_
    refine zAloadN d_L_law_812 rfl rfl (q := 813) rfl ?_
    refine zIloadN d_L_law_813 rfl rfl (q := 814) rfl ?_
    refine zIconst d_L_law_814 (v := 1) ic_1 (q := 815) rfl ?_
    refine zIadd d_L_law_815 (q := 816) rfl ?_
    refine zSld d_L_law_816 (nI_add i 1) (by omega) hL31 (q := 817) rfl ?_
    refine zAloadN d_L_law_817 rfl rfl (q := 818) rfl ?_
    refine zIloadN d_L_law_818 rfl rfl (q := 819) rfl ?_
    refine zIconst d_L_law_819 (v := 2) ic_2 (q := 820) rfl ?_
    refine zIadd d_L_law_820 (q := 821) rfl ?_
    refine zSld d_L_law_821 (nI_add i 2) (by omega) hL31 (q := 822) rfl ?_
    refine zCallVP d_L_law_822 ml_L_105 k_X12_byTurns ki_X12_byTurns ks_X12_byTurns (sp_X12_byTurns (V := I) (d := d - 1) (by omega) hM.1 hc.1.1 hc.1.2) rfl rfl sh_64 (by decide) rfl (by decide) (Nat.le_of_ble_eq_true rfl) (by decide) (by omega) zns0 (q := 825) rfl ?_
    refine zIcmp_eq d_L_law_825 (tgt := 1418) (q := 828) (by decide) rfl (fun h825 => ?_) (fun h => absurd (if_pos k1).symm h)
    refine zSub [0, 1, 2, 3] rfl ?_
    exact K0 _ _ _ _ _ hv
end S81

