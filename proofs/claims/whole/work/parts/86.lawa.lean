/-! THE LAW: POCKET -/
theorem zIc_b15 {V V' : Nat → Nat → Int32} {h h2 ns nt nh nb dn al m ks : Nat} {pg : Option (List zLine)} (k : zIc V h h2 ns nt nh nb dn al m ks pg) (v : ∀ a, (a < 3 ∨ 15 < a) → V' a = V a) (hB : zBd V' ns nt nh) : zIc V' h h2 ns nt nh nb dn al m ks pg := by
  obtain ⟨⟨a1, a2⟩, ⟨b1, b2, b3, b4⟩, ⟨c1, c2, c3, c4, c5⟩, ⟨d1, d2, d3⟩, ⟨e1, e2, e3⟩, f1, g1⟩ := k
  refine ⟨⟨zSky_of (v 1 (by omega)) a1, hB⟩, ⟨by rw [v 38 (by omega)]; exact b1, b2, ?_, fun q hq => by rw [v (42 + 2 * q) (by omega)]; exact b4 q hq⟩,
    ⟨by rw [v 31 (by omega)]; exact c1, by rw [v 31 (by omega)]; exact c2, c3, c4, ?_⟩, ⟨by rw [v 29 (by omega)]; exact d1, d2, by rw [v 30 (by omega)]; exact d3⟩, ⟨by rw [v 36 (by omega)]; exact e1, e2, by rw [v 36 (by omega)]; exact e3⟩, f1,
    zLawOk_ex (v h (by omega)) (v (h + 1) (by omega)) (v (h + 2) (by omega)) g1⟩
  · intro i hi; rw [v 39 (by omega)]; exact b3 i hi
  · intro i hi; rw [v 32 (by omega), v 33 (by omega), v 34 (by omega), v 35 (by omega)]; exact c5 i hi
theorem zBd_15 {V : Nat → Nat → Int32} {ns nt nh : Nat} {f : Nat → Int32} (hB : zBd V ns nt nh) : zBd (zup V 15 f) ns nt nh :=
  ⟨fun j k hj hk => by rw [zup_ne (by omega)]; exact hB.1 j k hj hk, fun k hk => hB.2 k hk⟩
theorem zIc_pocket {V : Nat → Nat → Int32} {h h2 ns nt nh nb dn al m ks q : Nat} {pg : Option (List zLine)} {x : Int32} (k : zIc V h h2 ns nt nh nb dn al m ks pg) (hq : q < ns) : zIc (zup (zup (zup V 8 (zup (V 8) q 1)) 7 (zup (V 7) q 0)) 15 (zup (V 15) 3 x)) h h2 ns nt nh nb dn al m ks pg := by
  refine zIc_b15 k (fun a ha => by rw [zup_ne (by omega), zup_ne (by omega), zup_ne (by omega)]) (zBd_15 ?_)
  have b1 := zBd_num (j := 5) (q := q) (v := 1) k.1.2 (by decide) hq (by decide)
  exact zBd_num (j := 4) (q := q) (v := 0) b1 (by decide) hq (by decide)
section S86
variable {g : zG} {l : Launch} {d i h h2 : Nat} {I : Nat → Nat → Int32} {L : Nat → Nat → Int64} {o : Option Nat} {Q : Option Value → zW → Prop}
theorem lw_pocket (hd : 100 ≤ d) (hL31 : zgL g < 2 ^ 31) (hi : i + 6 ≤ zgL g) (hv : zIv I L h h2) (K0 : zLwK g l d i Q) : zLA g l d I L (h, h2, o) 929 [(3, .int (nI i)), (0, .ref 1004), (1, .ref 0), (2, .ref 64)] Q := by
  obtain ⟨ns, nt, nh, nb, dn, al, m, ks, pg, hc, hM⟩ := id hv
  by_cases k1 : 0 ≤ zgX g (i + 1) ∧ zgX g (i + 1) < nI ns
  · obtain ⟨q, hq, eq2⟩ := zn1 (x := zgX g (i + 1)) (n := ns) (by have := hc.1.1.2.1; omega) k1.1 k1.2
    have eq : (zgX g (i + 1)).toNatClampNeg = q := by rw [eq2, zcl_n (by have := hc.1.1.2.1; omega)]
    by_cases k2 : I 8 (zgX g (i + 1)).toNatClampNeg = 0
    ·
      refine zAloadN d_L_law_929 rfl rfl (q := 930) rfl ?_
      refine zAloadN d_L_law_930 rfl rfl (q := 931) rfl ?_
      refine zIloadN d_L_law_931 rfl rfl (q := 932) rfl ?_
      refine zIconst d_L_law_932 (v := 1) ic_1 (q := 933) rfl ?_
      refine zIadd d_L_law_933 (q := 934) rfl ?_
      refine zSld d_L_law_934 (nI_add i 1) (by omega) hL31 (q := 935) rfl ?_
      refine zCallVX d_L_law_935 ml_L_119 k_X11_pocket ki_X11_pocket ks_X11_pocket (sp_X11_pocket (d := d - 1) (by omega) hc.1.1) rfl rfl sh_0 (by decide) rfl (by decide) (Nat.le_of_ble_eq_true rfl) (by decide) (by omega) zns0 (q := 938) rfl (fun x w' hw' => ?_)
      obtain ⟨-, -, rfl, rfl⟩ := (hw'.resolve_left (fun z => z.1 k1)).resolve_left (fun z => z.2.1 k2)
      have c9 := zIc_pocket (x := I 15 3 + 1) hc hq
      rw [← eq] at c9
      refine zAloadN d_L_law_938 rfl rfl (q := 939) rfl ?_
      refine zAloadN d_L_law_939 rfl rfl (q := 940) rfl ?_
      refine zIloadN d_L_law_940 rfl rfl (q := 941) rfl ?_
      refine zIconst d_L_law_941 (v := 1) ic_1 (q := 942) rfl ?_
      refine zIadd d_L_law_942 (q := 943) rfl ?_
      refine zSld d_L_law_943 (nI_add i 1) (by omega) hL31 (q := 944) rfl ?_
      refine zCallVX d_L_law_944 ml_L_122 k_X12_pocket ki_X12_pocket ks_X12_pocket (sp_X12_pocket (V := I) (K := L) (pg := pg) (d := d - 1) (by omega) (zMd_low (fun a ha ↦ by rw [zup_ne (by omega), zup_ne (by omega), zup_ne (by omega)]) rfl hM) hc.1.1 hc.1.2) rfl rfl sh_64 (by decide) rfl (by decide) (Nat.le_of_ble_eq_true rfl) (by decide) (by omega) zns0 (q := 947) rfl (fun x w' hw' => ?_)
      obtain ⟨-, -, rfl, J, rfl, hf, hD⟩ := (hw'.resolve_left (fun z => z.1 k1)).resolve_left (fun z => z.2.1 k2)
      refine zIcmp_eq d_L_law_947 (tgt := 1418) (q := 950) (by decide) rfl (fun h947 => ?_) (fun h => absurd rfl h)
      refine zSub [0, 1, 2, 3] rfl ?_
      exact K0 _ _ _ _ _ (zIv_next c9 (fun a ha => hf a (by have := c9.2.2.2.2.2.1; omega)) hD (fun _ _ _ => rfl))
    ·
      refine zAloadN d_L_law_929 rfl rfl (q := 930) rfl ?_
      refine zAloadN d_L_law_930 rfl rfl (q := 931) rfl ?_
      refine zIloadN d_L_law_931 rfl rfl (q := 932) rfl ?_
      refine zIconst d_L_law_932 (v := 1) ic_1 (q := 933) rfl ?_
      refine zIadd d_L_law_933 (q := 934) rfl ?_
      refine zSld d_L_law_934 (nI_add i 1) (by omega) hL31 (q := 935) rfl ?_
      refine zCallVX d_L_law_935 ml_L_119 k_X11_pocket ki_X11_pocket ks_X11_pocket (sp_X11_pocket (d := d - 1) (by omega) hc.1.1) rfl rfl sh_0 (by decide) rfl (by decide) (Nat.le_of_ble_eq_true rfl) (by decide) (by omega) zns0 (q := 938) rfl (fun x w' hw' => ?_)
      obtain ⟨-, -, rfl, rfl⟩ := (hw'.resolve_left (fun z => z.1 k1)).resolve_right (fun z => k2 z.2.1)
      refine zAloadN d_L_law_938 rfl rfl (q := 939) rfl ?_
      refine zAloadN d_L_law_939 rfl rfl (q := 940) rfl ?_
      refine zIloadN d_L_law_940 rfl rfl (q := 941) rfl ?_
      refine zIconst d_L_law_941 (v := 1) ic_1 (q := 942) rfl ?_
      refine zIadd d_L_law_942 (q := 943) rfl ?_
      refine zSld d_L_law_943 (nI_add i 1) (by omega) hL31 (q := 944) rfl ?_
      refine zCallVX d_L_law_944 ml_L_122 k_X12_pocket ki_X12_pocket ks_X12_pocket (sp_X12_pocket (V := I) (K := L) (pg := pg) (d := d - 1) (by omega) hM hc.1.1 hc.1.2) rfl rfl sh_64 (by decide) rfl (by decide) (Nat.le_of_ble_eq_true rfl) (by decide) (by omega) zns0 (q := 947) rfl (fun x w' hw' => ?_)
      obtain ⟨-, -, rfl, rfl⟩ := (hw'.resolve_left (fun z => z.1 k1)).resolve_right (fun z => k2 z.2.1)
      refine zIcmp_eq d_L_law_947 (tgt := 1418) (q := 950) (by decide) rfl (fun h947 => ?_) (fun h => absurd rfl h)
      refine zSub [0, 1, 2, 3] rfl ?_
      exact K0 _ _ _ _ _ hv
  ·
    refine zAloadN d_L_law_929 rfl rfl (q := 930) rfl ?_
    refine zAloadN d_L_law_930 rfl rfl (q := 931) rfl ?_
    refine zIloadN d_L_law_931 rfl rfl (q := 932) rfl ?_
    refine zIconst d_L_law_932 (v := 1) ic_1 (q := 933) rfl ?_
    refine zIadd d_L_law_933 (q := 934) rfl ?_
    refine zSld d_L_law_934 (nI_add i 1) (by omega) hL31 (q := 935) rfl ?_
    refine zCallVX d_L_law_935 ml_L_119 k_X11_pocket ki_X11_pocket ks_X11_pocket (sp_X11_pocket (d := d - 1) (by omega) hc.1.1) rfl rfl sh_0 (by decide) rfl (by decide) (Nat.le_of_ble_eq_true rfl) (by decide) (by omega) zns0 (q := 938) rfl (fun x w' hw' => ?_)
    obtain ⟨-, rfl, rfl⟩ := hw'.resolve_right (fun z => by rcases z with z | z <;> exact k1 z.1)
    refine zAloadN d_L_law_938 rfl rfl (q := 939) rfl ?_
    refine zAloadN d_L_law_939 rfl rfl (q := 940) rfl ?_
    refine zIloadN d_L_law_940 rfl rfl (q := 941) rfl ?_
    refine zIconst d_L_law_941 (v := 1) ic_1 (q := 942) rfl ?_
    refine zIadd d_L_law_942 (q := 943) rfl ?_
    refine zSld d_L_law_943 (nI_add i 1) (by omega) hL31 (q := 944) rfl ?_
    refine zCallVX d_L_law_944 ml_L_122 k_X12_pocket ki_X12_pocket ks_X12_pocket (sp_X12_pocket (V := I) (K := L) (pg := pg) (d := d - 1) (by omega) hM hc.1.1 hc.1.2) rfl rfl sh_64 (by decide) rfl (by decide) (Nat.le_of_ble_eq_true rfl) (by decide) (by omega) zns0 (q := 947) rfl (fun x w' hw' => ?_)
    obtain ⟨-, rfl, rfl⟩ := hw'.resolve_right (fun z => by rcases z with z | z <;> exact k1 z.1)
    refine zIcmp_eq d_L_law_947 (tgt := 1418) (q := 950) (by decide) rfl (fun h947 => ?_) (fun h => absurd rfl h)
    refine zSub [0, 1, 2, 3] rfl ?_
    exact K0 _ _ _ _ _ hv
end S86

