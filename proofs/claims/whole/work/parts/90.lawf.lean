/-! THE LAW: WHO CAME HOME, A PATTERN -/
theorem zWr_cg {V W : Nat → Nat → Int32} {ns nh n : Nat} {X Y X2 Y2 : Nat → Int32} (h7 : W 7 = V 7) (h11 : W 11 = V 11) (hX : ∀ i, i < n → X2 i = X i) (hY : ∀ i, i < n → Y2 i = Y i) : zWr W ns nh X2 Y2 n = zWr V ns nh X Y n := by
  have e1 : ∀ r, zSteer W nh r = zSteer V nh r := fun r => by unfold zSteer; rw [h11]
  have e : ∀ r, zrun (fun i => decide ((zSteer W nh r >>> (X2 i &&& 31)) &&& 1 = Y2 i)) n 0 = zrun (fun i => decide ((zSteer V nh r >>> (X i &&& 31)) &&& 1 = Y i)) n 0 := fun r => zrun_congr (Nat.zero_le _) (fun i _ hi => by rw [e1, hX i hi, hY i hi])
  unfold zWr
  rw [h7]
  exact zfor_congr (fun j t _ _ => by unfold zWrS zAllSo; rw [e])
theorem zMv_cg {V W : Nat → Nat → Int32} {ns n : Nat} {X Y X2 Y2 : Nat → Int32} (h3 : W 3 = V 3) (hX : ∀ i, i < n → X2 i = X i) (hY : ∀ i, i < n → Y2 i = Y i) : zMv (fun x y => decide (zFit W ns X2 Y2 n x y)) 0 = zMv (fun x y => decide (zFit V ns X Y n x y)) 0 := by
  have e : ∀ x y, zrun (fun i => decide (zOnB W ns (X2 i + x) (Y2 i + y))) n 0 = zrun (fun i => decide (zOnB V ns (X i + x) (Y i + y))) n 0 := fun x y => zrun_congr (Nat.zero_le _) (fun i _ hi => by unfold zOnB; rw [h3, hX i hi, hY i hi])
  congr 1
  funext x y
  unfold zFit
  rw [e]
theorem zWrU_ne {I : Nat → Nat → Int32} {X Y F : Nat → Int32} {s : Int32 × Int32} {a : Nat} (ha : a < 16 ∨ 18 < a) : zWrU (zup (zup (zup I 17 X) 18 Y) 16 F) s a = I a := by
  unfold zWrU; rw [zup_ne (by omega), zup_ne (by omega), zup_ne (by omega), zup_ne (by omega)]
theorem zMvU_ne {I : Nat → Nat → Int32} {X Y F : Nat → Int32} {s : Int32 × Int32} {a : Nat} (ha : a < 19 ∨ 21 < a) : zMvU (zup (zup (zup I 20 X) 21 Y) 19 F) s a = I a := by
  unfold zMvU; rw [zup_ne (by omega), zup_ne (by omega), zup_ne (by omega), zup_ne (by omega)]
section S90
variable {g : zG} {l : Launch} {d i h h2 : Nat} {I : Nat → Nat → Int32} {L : Nat → Nat → Int64} {o : Option Nat} {Q : Option Value → zW → Prop}
theorem lw_home (hd : 100 ≤ d) (hL31 : zgL g < 2 ^ 31) (hi : i + 6 ≤ zgL g) (hv : zIv I L h h2) (K0 : zLwK g l d i Q) : zLA g l d I L (h, h2, o) 731 [(3, .int (nI i)), (0, .ref 1004), (1, .ref 0), (2, .ref 64)] Q := by
  obtain ⟨ns, nt, nh, nb, dn, al, m, ks, pg, hc, hM⟩ := id hv
  by_cases hr : 0 ≤ zgX g (i + 1) ∧ zgX g (i + 1) < 6
  · obtain ⟨k, hk, ek⟩ := zn1 (x := zgX g (i + 1)) (n := 6) (by decide) hr.1 hr.2
    obtain ⟨sz, hsz, em⟩ := (hc.2.1.2.2.2 k hk).2
    by_cases k1 : 0 ≤ zgX g (i + 2) ∧ zgX g (i + 2) ≤ 1
    · by_cases k2 : I (42 + 2 * k) 1 = 0
      ·
        refine zAloadN d_L_law_731 rfl rfl (q := 732) rfl ?_
        refine zAloadN d_L_law_732 rfl rfl (q := 733) rfl ?_
        refine zIloadN d_L_law_733 rfl rfl (q := 734) rfl ?_
        refine zIconst d_L_law_734 (v := 1) ic_1 (q := 735) rfl ?_
        refine zIadd d_L_law_735 (q := 736) rfl ?_
        refine zSld d_L_law_736 (nI_add i 1) (by omega) hL31 (q := 737) rfl ?_
        rw [ek]
        refine zAloadN d_L_law_737 rfl rfl (q := 738) rfl ?_
        refine zIloadN d_L_law_738 rfl rfl (q := 739) rfl ?_
        refine zIconst d_L_law_739 (v := 2) ic_2 (q := 740) rfl ?_
        refine zIadd d_L_law_740 (q := 741) rfl ?_
        refine zSld d_L_law_741 (nI_add i 2) (by omega) hL31 (q := 742) rfl ?_
        refine zCallVX d_L_law_742 ml_L_94 k_X11_home ki_X11_home ks_X11_home (sp_X11_home (d := d - 1) (by omega) hc.1.1 hk em hsz) rfl rfl sh_0 (by decide) rfl (by decide) (Nat.le_of_ble_eq_true rfl) (by decide) (by omega) zns0 (q := 745) rfl (fun x w' hw' => ?_)
        obtain ⟨-, -, X, Y, hXY, J, eJ, rfl, rfl⟩ := (hw'.resolve_left (fun z => z.1 k1)).resolve_left (fun z => z.2.1 k2)
        have hJ : ∀ a, (a < 16 ∨ 18 < a) → J a = I a := fun a ha => by rw [eJ]; exact zWrU_ne ha
        have hM1 : zMd J L I L pg := zMd_low (fun a ha => hJ a (by omega)) rfl hM
        rw [show zWr (zup (zup (zup I 17 X) 18 Y) 16 (zup (I 16) 3 (nI (zHomN I L ns nt nh (42 + 2 * k))))) ns nh X Y (zHomN I L ns nt nh (42 + 2 * k)) = zHomA I L ns nt nh (42 + 2 * k) from zWr_cg rfl rfl (fun i hi => (hXY i hi).1) (fun i hi => (hXY i hi).2)] at eJ
        have q4 : J 16 4 = (zHomA I L ns nt nh (42 + 2 * k)).1 := by rw [eJ]; rfl
        have q5 : J 16 5 = (zHomA I L ns nt nh (42 + 2 * k)).2 := by rw [eJ]; rfl
        rw [q4, q5]
        refine zAloadN d_L_law_745 rfl rfl (q := 746) rfl ?_
        refine zAloadN d_L_law_746 rfl rfl (q := 747) rfl ?_
        refine zIloadN d_L_law_747 rfl rfl (q := 748) rfl ?_
        refine zIconst d_L_law_748 (v := 1) ic_1 (q := 749) rfl ?_
        refine zIadd d_L_law_749 (q := 750) rfl ?_
        refine zSld d_L_law_750 (nI_add i 1) (by omega) hL31 (q := 751) rfl ?_
        rw [ek]
        refine zAloadN d_L_law_751 rfl rfl (q := 752) rfl ?_
        refine zIloadN d_L_law_752 rfl rfl (q := 753) rfl ?_
        refine zIconst d_L_law_753 (v := 2) ic_2 (q := 754) rfl ?_
        refine zIadd d_L_law_754 (q := 755) rfl ?_
        refine zSld d_L_law_755 (nI_add i 2) (by omega) hL31 (q := 756) rfl ?_
        refine zCallVP d_L_law_756 ml_L_97 k_X12_home ki_X12_home ks_X12_home (sp_X12_home (V := I) (K := L) (nb := nb) (d := d - 1) (by omega) hM1.1 hc.1.1 hc.1.2 hM1.2.2.2.2.2.1 hc.2.1.2.2.2 hc.2.1.2.1 hk em hsz) rfl rfl sh_64 (by decide) rfl (by decide) (Nat.le_of_ble_eq_true rfl) (by decide) (by omega) zns0 (q := 759) rfl ?_
        refine zIcmp_eq d_L_law_759 (tgt := 1418) (q := 762) (by decide) rfl (fun h759 => ?_) (fun h => absurd (by rw [if_neg (not_not_intro k1), if_neg (not_not_intro k2)]) h)
        refine zSub [0, 1, 2, 3] rfl ?_
        exact K0 _ _ _ _ _ (zIv_next (V' := I) hc (fun a ha => hJ a (by have := hc.2.2.2.2.2.1; omega)) hM1 (fun _ _ _ => rfl))
      ·
        refine zAloadN d_L_law_731 rfl rfl (q := 732) rfl ?_
        refine zAloadN d_L_law_732 rfl rfl (q := 733) rfl ?_
        refine zIloadN d_L_law_733 rfl rfl (q := 734) rfl ?_
        refine zIconst d_L_law_734 (v := 1) ic_1 (q := 735) rfl ?_
        refine zIadd d_L_law_735 (q := 736) rfl ?_
        refine zSld d_L_law_736 (nI_add i 1) (by omega) hL31 (q := 737) rfl ?_
        rw [ek]
        refine zAloadN d_L_law_737 rfl rfl (q := 738) rfl ?_
        refine zIloadN d_L_law_738 rfl rfl (q := 739) rfl ?_
        refine zIconst d_L_law_739 (v := 2) ic_2 (q := 740) rfl ?_
        refine zIadd d_L_law_740 (q := 741) rfl ?_
        refine zSld d_L_law_741 (nI_add i 2) (by omega) hL31 (q := 742) rfl ?_
        refine zCallVX d_L_law_742 ml_L_94 k_X11_home ki_X11_home ks_X11_home (sp_X11_home (d := d - 1) (by omega) hc.1.1 hk em hsz) rfl rfl sh_0 (by decide) rfl (by decide) (Nat.le_of_ble_eq_true rfl) (by decide) (by omega) zns0 (q := 745) rfl (fun x w' hw' => ?_)
        obtain ⟨-, -, rfl, rfl⟩ := (hw'.resolve_left (fun z => z.1 k1)).resolve_right (fun z => k2 z.2.1)
        refine zAloadN d_L_law_745 rfl rfl (q := 746) rfl ?_
        refine zAloadN d_L_law_746 rfl rfl (q := 747) rfl ?_
        refine zIloadN d_L_law_747 rfl rfl (q := 748) rfl ?_
        refine zIconst d_L_law_748 (v := 1) ic_1 (q := 749) rfl ?_
        refine zIadd d_L_law_749 (q := 750) rfl ?_
        refine zSld d_L_law_750 (nI_add i 1) (by omega) hL31 (q := 751) rfl ?_
        rw [ek]
        refine zAloadN d_L_law_751 rfl rfl (q := 752) rfl ?_
        refine zIloadN d_L_law_752 rfl rfl (q := 753) rfl ?_
        refine zIconst d_L_law_753 (v := 2) ic_2 (q := 754) rfl ?_
        refine zIadd d_L_law_754 (q := 755) rfl ?_
        refine zSld d_L_law_755 (nI_add i 2) (by omega) hL31 (q := 756) rfl ?_
        refine zCallVP d_L_law_756 ml_L_97 k_X12_home ki_X12_home ks_X12_home (sp_X12_home (V := I) (K := L) (nb := nb) (d := d - 1) (by omega) hM.1 hc.1.1 hc.1.2 hM.2.2.2.2.2.1 hc.2.1.2.2.2 hc.2.1.2.1 hk em hsz) rfl rfl sh_64 (by decide) rfl (by decide) (Nat.le_of_ble_eq_true rfl) (by decide) (by omega) zns0 (q := 759) rfl ?_
        refine zIcmp_eq d_L_law_759 (tgt := 1418) (q := 762) (by decide) rfl (fun h759 => ?_) (fun h => absurd (by rw [if_neg (not_not_intro k1), if_pos k2]) h)
        refine zSub [0, 1, 2, 3] rfl ?_
        exact K0 _ _ _ _ _ hv
    ·
      refine zAloadN d_L_law_731 rfl rfl (q := 732) rfl ?_
      refine zAloadN d_L_law_732 rfl rfl (q := 733) rfl ?_
      refine zIloadN d_L_law_733 rfl rfl (q := 734) rfl ?_
      refine zIconst d_L_law_734 (v := 1) ic_1 (q := 735) rfl ?_
      refine zIadd d_L_law_735 (q := 736) rfl ?_
      refine zSld d_L_law_736 (nI_add i 1) (by omega) hL31 (q := 737) rfl ?_
      rw [ek]
      refine zAloadN d_L_law_737 rfl rfl (q := 738) rfl ?_
      refine zIloadN d_L_law_738 rfl rfl (q := 739) rfl ?_
      refine zIconst d_L_law_739 (v := 2) ic_2 (q := 740) rfl ?_
      refine zIadd d_L_law_740 (q := 741) rfl ?_
      refine zSld d_L_law_741 (nI_add i 2) (by omega) hL31 (q := 742) rfl ?_
      refine zCallVX d_L_law_742 ml_L_94 k_X11_home ki_X11_home ks_X11_home (sp_X11_home (d := d - 1) (by omega) hc.1.1 hk em hsz) rfl rfl sh_0 (by decide) rfl (by decide) (Nat.le_of_ble_eq_true rfl) (by decide) (by omega) zns0 (q := 745) rfl (fun x w' hw' => ?_)
      obtain ⟨-, rfl, rfl⟩ := hw'.resolve_right (fun z => by rcases z with z | z <;> exact k1 z.1)
      refine zAloadN d_L_law_745 rfl rfl (q := 746) rfl ?_
      refine zAloadN d_L_law_746 rfl rfl (q := 747) rfl ?_
      refine zIloadN d_L_law_747 rfl rfl (q := 748) rfl ?_
      refine zIconst d_L_law_748 (v := 1) ic_1 (q := 749) rfl ?_
      refine zIadd d_L_law_749 (q := 750) rfl ?_
      refine zSld d_L_law_750 (nI_add i 1) (by omega) hL31 (q := 751) rfl ?_
      rw [ek]
      refine zAloadN d_L_law_751 rfl rfl (q := 752) rfl ?_
      refine zIloadN d_L_law_752 rfl rfl (q := 753) rfl ?_
      refine zIconst d_L_law_753 (v := 2) ic_2 (q := 754) rfl ?_
      refine zIadd d_L_law_754 (q := 755) rfl ?_
      refine zSld d_L_law_755 (nI_add i 2) (by omega) hL31 (q := 756) rfl ?_
      refine zCallVP d_L_law_756 ml_L_97 k_X12_home ki_X12_home ks_X12_home (sp_X12_home (V := I) (K := L) (nb := nb) (d := d - 1) (by omega) hM.1 hc.1.1 hc.1.2 hM.2.2.2.2.2.1 hc.2.1.2.2.2 hc.2.1.2.1 hk em hsz) rfl rfl sh_64 (by decide) rfl (by decide) (Nat.le_of_ble_eq_true rfl) (by decide) (by omega) zns0 (q := 759) rfl ?_
      refine zIcmp_eq d_L_law_759 (tgt := 1418) (q := 762) (by decide) rfl (fun h759 => ?_) (fun h => absurd (by rw [if_pos k1]) h)
      refine zSub [0, 1, 2, 3] rfl ?_
      exact K0 _ _ _ _ _ hv
  ·
    refine zAloadN d_L_law_731 rfl rfl (q := 732) rfl ?_
    refine zAloadN d_L_law_732 rfl rfl (q := 733) rfl ?_
    refine zIloadN d_L_law_733 rfl rfl (q := 734) rfl ?_
    refine zIconst d_L_law_734 (v := 1) ic_1 (q := 735) rfl ?_
    refine zIadd d_L_law_735 (q := 736) rfl ?_
    refine zSld d_L_law_736 (nI_add i 1) (by omega) hL31 (q := 737) rfl ?_
    refine zAloadN d_L_law_737 rfl rfl (q := 738) rfl ?_
    refine zIloadN d_L_law_738 rfl rfl (q := 739) rfl ?_
    refine zIconst d_L_law_739 (v := 2) ic_2 (q := 740) rfl ?_
    refine zIadd d_L_law_740 (q := 741) rfl ?_
    refine zSld d_L_law_741 (nI_add i 2) (by omega) hL31 (q := 742) rfl ?_
    refine zCallVP d_L_law_742 ml_L_94 k_X11_home ki_X11_home ks_X11_home (sp_X11_home0 (d := d - 1) (by omega) hr) rfl rfl sh_0 (by decide) rfl (by decide) (Nat.le_of_ble_eq_true rfl) (by decide) (by omega) zns0 (q := 745) rfl ?_
    refine zAloadN d_L_law_745 rfl rfl (q := 746) rfl ?_
    refine zAloadN d_L_law_746 rfl rfl (q := 747) rfl ?_
    refine zIloadN d_L_law_747 rfl rfl (q := 748) rfl ?_
    refine zIconst d_L_law_748 (v := 1) ic_1 (q := 749) rfl ?_
    refine zIadd d_L_law_749 (q := 750) rfl ?_
    refine zSld d_L_law_750 (nI_add i 1) (by omega) hL31 (q := 751) rfl ?_
    refine zAloadN d_L_law_751 rfl rfl (q := 752) rfl ?_
    refine zIloadN d_L_law_752 rfl rfl (q := 753) rfl ?_
    refine zIconst d_L_law_753 (v := 2) ic_2 (q := 754) rfl ?_
    refine zIadd d_L_law_754 (q := 755) rfl ?_
    refine zSld d_L_law_755 (nI_add i 2) (by omega) hL31 (q := 756) rfl ?_
    refine zCallVP d_L_law_756 ml_L_97 k_X12_home ki_X12_home ks_X12_home (sp_X12_home0 (d := d - 1) (by omega) hr) rfl rfl sh_64 (by decide) rfl (by decide) (Nat.le_of_ble_eq_true rfl) (by decide) (by omega) zns0 (q := 759) rfl ?_
    refine zIcmp_eq d_L_law_759 (tgt := 1418) (q := 762) (by decide) rfl (fun h759 => ?_) (fun h => absurd rfl h)
    refine zSub [0, 1, 2, 3] rfl ?_
    exact K0 _ _ _ _ _ hv
theorem lw_pattern (hd : 100 ≤ d) (hL31 : zgL g < 2 ^ 31) (hi : i + 6 ≤ zgL g) (hv : zIv I L h h2) (K0 : zLwK g l d i Q) : zLA g l d I L (h, h2, o) 764 [(3, .int (nI i)), (0, .ref 1004), (1, .ref 0), (2, .ref 64)] Q := by
  obtain ⟨ns, nt, nh, nb, dn, al, m, ks, pg, hc, hM⟩ := id hv
  by_cases hr : 0 ≤ zgX g (i + 1) ∧ zgX g (i + 1) < 6
  · obtain ⟨k, hk, ek⟩ := zn1 (x := zgX g (i + 1)) (n := 6) (by decide) hr.1 hr.2
    obtain ⟨sz, hsz, em⟩ := (hc.2.1.2.2.2 k hk).2
    by_cases k1 : 0 ≤ zgX g (i + 2) ∧ zgX g (i + 2) ≤ 3
    · by_cases k2 : I (42 + 2 * k) 1 = 0
      ·
        refine zAloadN d_L_law_764 rfl rfl (q := 765) rfl ?_
        refine zAloadN d_L_law_765 rfl rfl (q := 766) rfl ?_
        refine zIloadN d_L_law_766 rfl rfl (q := 767) rfl ?_
        refine zIconst d_L_law_767 (v := 1) ic_1 (q := 768) rfl ?_
        refine zIadd d_L_law_768 (q := 769) rfl ?_
        refine zSld d_L_law_769 (nI_add i 1) (by omega) hL31 (q := 770) rfl ?_
        rw [ek]
        refine zAloadN d_L_law_770 rfl rfl (q := 771) rfl ?_
        refine zIloadN d_L_law_771 rfl rfl (q := 772) rfl ?_
        refine zIconst d_L_law_772 (v := 2) ic_2 (q := 773) rfl ?_
        refine zIadd d_L_law_773 (q := 774) rfl ?_
        refine zSld d_L_law_774 (nI_add i 2) (by omega) hL31 (q := 775) rfl ?_
        refine zCallVX d_L_law_775 ml_L_98 k_X11_pattern ki_X11_pattern ks_X11_pattern (sp_X11_pattern (d := d - 1) (by omega) hc.1.1 hk em hsz) rfl rfl sh_0 (by decide) rfl (by decide) (Nat.le_of_ble_eq_true rfl) (by decide) (by omega) zns0 (q := 778) rfl (fun x w' hw' => ?_)
        obtain ⟨-, -, X, Y, hXY, J, eJ, rfl, rfl⟩ := (hw'.resolve_left (fun z => z.1 k1)).resolve_left (fun z => z.2.1 k2)
        have hJ : ∀ a, (a < 19 ∨ 21 < a) → J a = I a := fun a ha => by rw [eJ]; exact zMvU_ne ha
        have hM1 : zMd J L I L pg := zMd_low (fun a ha => hJ a (by omega)) rfl hM
        rw [show zMv (fun x y => decide (zFit (zup (zup (zup I 20 X) 21 Y) 19 (zup (I 19) 3 (nI (zPatN I L (42 + 2 * k))))) ns X Y (zPatN I L (42 + 2 * k)) x y)) 0 = zPatA I L ns (42 + 2 * k) (zgX g (i + 2)) from zMv_cg rfl (fun i hi => (hXY i hi).1) (fun i hi => (hXY i hi).2)] at eJ
        have q4 : J 19 4 = (zPatA I L ns (42 + 2 * k) (zgX g (i + 2))).1 := by rw [eJ]; rfl
        have q5 : J 19 5 = (zPatA I L ns (42 + 2 * k) (zgX g (i + 2))).2 := by rw [eJ]; rfl
        rw [q4, q5]
        refine zAloadN d_L_law_778 rfl rfl (q := 779) rfl ?_
        refine zAloadN d_L_law_779 rfl rfl (q := 780) rfl ?_
        refine zIloadN d_L_law_780 rfl rfl (q := 781) rfl ?_
        refine zIconst d_L_law_781 (v := 1) ic_1 (q := 782) rfl ?_
        refine zIadd d_L_law_782 (q := 783) rfl ?_
        refine zSld d_L_law_783 (nI_add i 1) (by omega) hL31 (q := 784) rfl ?_
        rw [ek]
        refine zAloadN d_L_law_784 rfl rfl (q := 785) rfl ?_
        refine zIloadN d_L_law_785 rfl rfl (q := 786) rfl ?_
        refine zIconst d_L_law_786 (v := 2) ic_2 (q := 787) rfl ?_
        refine zIadd d_L_law_787 (q := 788) rfl ?_
        refine zSld d_L_law_788 (nI_add i 2) (by omega) hL31 (q := 789) rfl ?_
        refine zCallVP d_L_law_789 ml_L_101 k_X12_pattern ki_X12_pattern ks_X12_pattern (sp_X12_pattern (V := I) (K := L) (nb := nb) (d := d - 1) (by omega) hM1.1 hc.1.1 hM1.2.2.2.2.2.1 hc.2.1.2.2.2 hc.2.1.2.1 hk em hsz) rfl rfl sh_64 (by decide) rfl (by decide) (Nat.le_of_ble_eq_true rfl) (by decide) (by omega) zns0 (q := 792) rfl ?_
        refine zIcmp_eq d_L_law_792 (tgt := 1418) (q := 795) (by decide) rfl (fun h792 => ?_) (fun h => absurd (by rw [if_neg (not_not_intro k1), if_neg (not_not_intro k2)]) h)
        refine zSub [0, 1, 2, 3] rfl ?_
        exact K0 _ _ _ _ _ (zIv_next (V' := I) hc (fun a ha => hJ a (by have := hc.2.2.2.2.2.1; omega)) hM1 (fun _ _ _ => rfl))
      ·
        refine zAloadN d_L_law_764 rfl rfl (q := 765) rfl ?_
        refine zAloadN d_L_law_765 rfl rfl (q := 766) rfl ?_
        refine zIloadN d_L_law_766 rfl rfl (q := 767) rfl ?_
        refine zIconst d_L_law_767 (v := 1) ic_1 (q := 768) rfl ?_
        refine zIadd d_L_law_768 (q := 769) rfl ?_
        refine zSld d_L_law_769 (nI_add i 1) (by omega) hL31 (q := 770) rfl ?_
        rw [ek]
        refine zAloadN d_L_law_770 rfl rfl (q := 771) rfl ?_
        refine zIloadN d_L_law_771 rfl rfl (q := 772) rfl ?_
        refine zIconst d_L_law_772 (v := 2) ic_2 (q := 773) rfl ?_
        refine zIadd d_L_law_773 (q := 774) rfl ?_
        refine zSld d_L_law_774 (nI_add i 2) (by omega) hL31 (q := 775) rfl ?_
        refine zCallVX d_L_law_775 ml_L_98 k_X11_pattern ki_X11_pattern ks_X11_pattern (sp_X11_pattern (d := d - 1) (by omega) hc.1.1 hk em hsz) rfl rfl sh_0 (by decide) rfl (by decide) (Nat.le_of_ble_eq_true rfl) (by decide) (by omega) zns0 (q := 778) rfl (fun x w' hw' => ?_)
        obtain ⟨-, -, rfl, rfl⟩ := (hw'.resolve_left (fun z => z.1 k1)).resolve_right (fun z => k2 z.2.1)
        refine zAloadN d_L_law_778 rfl rfl (q := 779) rfl ?_
        refine zAloadN d_L_law_779 rfl rfl (q := 780) rfl ?_
        refine zIloadN d_L_law_780 rfl rfl (q := 781) rfl ?_
        refine zIconst d_L_law_781 (v := 1) ic_1 (q := 782) rfl ?_
        refine zIadd d_L_law_782 (q := 783) rfl ?_
        refine zSld d_L_law_783 (nI_add i 1) (by omega) hL31 (q := 784) rfl ?_
        rw [ek]
        refine zAloadN d_L_law_784 rfl rfl (q := 785) rfl ?_
        refine zIloadN d_L_law_785 rfl rfl (q := 786) rfl ?_
        refine zIconst d_L_law_786 (v := 2) ic_2 (q := 787) rfl ?_
        refine zIadd d_L_law_787 (q := 788) rfl ?_
        refine zSld d_L_law_788 (nI_add i 2) (by omega) hL31 (q := 789) rfl ?_
        refine zCallVP d_L_law_789 ml_L_101 k_X12_pattern ki_X12_pattern ks_X12_pattern (sp_X12_pattern (V := I) (K := L) (nb := nb) (d := d - 1) (by omega) hM.1 hc.1.1 hM.2.2.2.2.2.1 hc.2.1.2.2.2 hc.2.1.2.1 hk em hsz) rfl rfl sh_64 (by decide) rfl (by decide) (Nat.le_of_ble_eq_true rfl) (by decide) (by omega) zns0 (q := 792) rfl ?_
        refine zIcmp_eq d_L_law_792 (tgt := 1418) (q := 795) (by decide) rfl (fun h792 => ?_) (fun h => absurd (by rw [if_neg (not_not_intro k1), if_pos k2]) h)
        refine zSub [0, 1, 2, 3] rfl ?_
        exact K0 _ _ _ _ _ hv
    ·
      refine zAloadN d_L_law_764 rfl rfl (q := 765) rfl ?_
      refine zAloadN d_L_law_765 rfl rfl (q := 766) rfl ?_
      refine zIloadN d_L_law_766 rfl rfl (q := 767) rfl ?_
      refine zIconst d_L_law_767 (v := 1) ic_1 (q := 768) rfl ?_
      refine zIadd d_L_law_768 (q := 769) rfl ?_
      refine zSld d_L_law_769 (nI_add i 1) (by omega) hL31 (q := 770) rfl ?_
      rw [ek]
      refine zAloadN d_L_law_770 rfl rfl (q := 771) rfl ?_
      refine zIloadN d_L_law_771 rfl rfl (q := 772) rfl ?_
      refine zIconst d_L_law_772 (v := 2) ic_2 (q := 773) rfl ?_
      refine zIadd d_L_law_773 (q := 774) rfl ?_
      refine zSld d_L_law_774 (nI_add i 2) (by omega) hL31 (q := 775) rfl ?_
      refine zCallVX d_L_law_775 ml_L_98 k_X11_pattern ki_X11_pattern ks_X11_pattern (sp_X11_pattern (d := d - 1) (by omega) hc.1.1 hk em hsz) rfl rfl sh_0 (by decide) rfl (by decide) (Nat.le_of_ble_eq_true rfl) (by decide) (by omega) zns0 (q := 778) rfl (fun x w' hw' => ?_)
      obtain ⟨-, rfl, rfl⟩ := hw'.resolve_right (fun z => by rcases z with z | z <;> exact k1 z.1)
      refine zAloadN d_L_law_778 rfl rfl (q := 779) rfl ?_
      refine zAloadN d_L_law_779 rfl rfl (q := 780) rfl ?_
      refine zIloadN d_L_law_780 rfl rfl (q := 781) rfl ?_
      refine zIconst d_L_law_781 (v := 1) ic_1 (q := 782) rfl ?_
      refine zIadd d_L_law_782 (q := 783) rfl ?_
      refine zSld d_L_law_783 (nI_add i 1) (by omega) hL31 (q := 784) rfl ?_
      rw [ek]
      refine zAloadN d_L_law_784 rfl rfl (q := 785) rfl ?_
      refine zIloadN d_L_law_785 rfl rfl (q := 786) rfl ?_
      refine zIconst d_L_law_786 (v := 2) ic_2 (q := 787) rfl ?_
      refine zIadd d_L_law_787 (q := 788) rfl ?_
      refine zSld d_L_law_788 (nI_add i 2) (by omega) hL31 (q := 789) rfl ?_
      refine zCallVP d_L_law_789 ml_L_101 k_X12_pattern ki_X12_pattern ks_X12_pattern (sp_X12_pattern (V := I) (K := L) (nb := nb) (d := d - 1) (by omega) hM.1 hc.1.1 hM.2.2.2.2.2.1 hc.2.1.2.2.2 hc.2.1.2.1 hk em hsz) rfl rfl sh_64 (by decide) rfl (by decide) (Nat.le_of_ble_eq_true rfl) (by decide) (by omega) zns0 (q := 792) rfl ?_
      refine zIcmp_eq d_L_law_792 (tgt := 1418) (q := 795) (by decide) rfl (fun h792 => ?_) (fun h => absurd (by rw [if_pos k1]) h)
      refine zSub [0, 1, 2, 3] rfl ?_
      exact K0 _ _ _ _ _ hv
  ·
    refine zAloadN d_L_law_764 rfl rfl (q := 765) rfl ?_
    refine zAloadN d_L_law_765 rfl rfl (q := 766) rfl ?_
    refine zIloadN d_L_law_766 rfl rfl (q := 767) rfl ?_
    refine zIconst d_L_law_767 (v := 1) ic_1 (q := 768) rfl ?_
    refine zIadd d_L_law_768 (q := 769) rfl ?_
    refine zSld d_L_law_769 (nI_add i 1) (by omega) hL31 (q := 770) rfl ?_
    refine zAloadN d_L_law_770 rfl rfl (q := 771) rfl ?_
    refine zIloadN d_L_law_771 rfl rfl (q := 772) rfl ?_
    refine zIconst d_L_law_772 (v := 2) ic_2 (q := 773) rfl ?_
    refine zIadd d_L_law_773 (q := 774) rfl ?_
    refine zSld d_L_law_774 (nI_add i 2) (by omega) hL31 (q := 775) rfl ?_
    refine zCallVP d_L_law_775 ml_L_98 k_X11_pattern ki_X11_pattern ks_X11_pattern (sp_X11_pattern0 (d := d - 1) (by omega) hr) rfl rfl sh_0 (by decide) rfl (by decide) (Nat.le_of_ble_eq_true rfl) (by decide) (by omega) zns0 (q := 778) rfl ?_
    refine zAloadN d_L_law_778 rfl rfl (q := 779) rfl ?_
    refine zAloadN d_L_law_779 rfl rfl (q := 780) rfl ?_
    refine zIloadN d_L_law_780 rfl rfl (q := 781) rfl ?_
    refine zIconst d_L_law_781 (v := 1) ic_1 (q := 782) rfl ?_
    refine zIadd d_L_law_782 (q := 783) rfl ?_
    refine zSld d_L_law_783 (nI_add i 1) (by omega) hL31 (q := 784) rfl ?_
    refine zAloadN d_L_law_784 rfl rfl (q := 785) rfl ?_
    refine zIloadN d_L_law_785 rfl rfl (q := 786) rfl ?_
    refine zIconst d_L_law_786 (v := 2) ic_2 (q := 787) rfl ?_
    refine zIadd d_L_law_787 (q := 788) rfl ?_
    refine zSld d_L_law_788 (nI_add i 2) (by omega) hL31 (q := 789) rfl ?_
    refine zCallVP d_L_law_789 ml_L_101 k_X12_pattern ki_X12_pattern ks_X12_pattern (sp_X12_pattern0 (d := d - 1) (by omega) hr) rfl rfl sh_64 (by decide) rfl (by decide) (Nat.le_of_ble_eq_true rfl) (by decide) (by omega) zns0 (q := 792) rfl ?_
    refine zIcmp_eq d_L_law_792 (tgt := 1418) (q := 795) (by decide) rfl (fun h792 => ?_) (fun h => absurd rfl h)
    refine zSub [0, 1, 2, 3] rfl ?_
    exact K0 _ _ _ _ _ hv
end S90

