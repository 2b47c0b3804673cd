/-! THE LAW: UNDO, REDO -/
theorem zBd_num {V : Nat → Nat → Int32} {ns nt nh j q : Nat} {v : Int32} (hB : zBd V ns nt nh) (hj : j < 12) (hq : q < zHold ns nt nh (nI j)) (hv : zMay (nI j) v) : zBd (zup V (3 + j) (zup (V (3 + j)) q v)) ns nt nh := by
  refine ⟨fun j2 k2 hj2 hk2 => ?_, fun k hk => ?_⟩
  · by_cases e : j2 = j
    · subst e
      rw [zup_eq]
      by_cases e2 : k2 = q
      · rw [e2, zup_eq]; exact hv
      · rw [zup_ne e2]; exact hB.1 j2 k2 hj2 hk2
    · rw [zup_ne (by omega)]; exact hB.1 j2 k2 hj2 hk2
  · have b := hB.2 k hk
    constructor
    · by_cases e : j = 4
      · subst e
        have hq : q < ns := hq
        rw [show 3 + 4 = 7 from rfl, zup_eq, zup_ne (by omega)]; exact b.1
      · rw [zup_ne (by omega)]; exact b.1
    · by_cases e : j = 5
      · subst e
        have hq : q < ns := hq
        rw [show 3 + 5 = 8 from rfl, zup_eq, zup_ne (by omega)]; exact b.2
      · rw [zup_ne (by omega)]; exact b.2
theorem zIc_bd {V V' : Nat → Nat → Int32} {h h2 ns nt nh nb dn al m ks : Nat} {pg : Option (List zLine)} (k : zIc V h h2 ns nt nh nb dn al m ks pg) (v : ∀ a, (a < 3 ∨ 14 < a) → V' a = V a) (hB : zBd V' ns nt nh) : zIc V' h h2 ns nt nh nb dn al m ks pg := by
  obtain ⟨⟨a1, a2⟩, ⟨b1, b2, b3, b4⟩, ⟨c1, c2, c3, c4, c5⟩, ⟨d1, d2, d3⟩, ⟨e1, e2, e3⟩, f1, g1⟩ := k
  refine ⟨⟨zSky_of (v 1 (by omega)) a1, hB⟩, ⟨by rw [v 38 (by omega)]; exact b1, b2, ?_, fun q hq => by rw [v (42 + 2 * q) (by omega)]; exact b4 q hq⟩,
    ⟨by rw [v 31 (by omega)]; exact c1, by rw [v 31 (by omega)]; exact c2, c3, c4, ?_⟩, ⟨by rw [v 29 (by omega)]; exact d1, d2, by rw [v 30 (by omega)]; exact d3⟩, ⟨by rw [v 36 (by omega)]; exact e1, e2, by rw [v 36 (by omega)]; exact e3⟩, f1,
    zLawOk_ex (v h (by omega)) (v (h + 1) (by omega)) (v (h + 2) (by omega)) g1⟩
  · intro i hi; rw [v 39 (by omega)]; exact b3 i hi
  · intro i hi; rw [v 32 (by omega), v 33 (by omega), v 34 (by omega), v 35 (by omega)]; exact c5 i hi
theorem zIc_lay {V : Nat → Nat → Int32} {h h2 ns nt nh nb dn al m ks j q : Nat} {pg : Option (List zLine)} {x : Int32} (k : zIc V h h2 ns nt nh nb dn al m ks pg) (hj : j < 12) (hq : q < zHold ns nt nh (nI j)) (hx : zMay (nI j) x) : zIc (zLay V ns nt nh (nI j) (nI q) x) h h2 ns nt nh nb dn al m ks pg := by
  refine zIc_bd k (fun a ha => zLay_ne ha) ?_
  unfold zLay
  split
  · exact k.1.2
  · unfold zSetI
    split
    · have hq2 : q < 2 ^ 31 := by
        have h1 := k.1.1.2
        have : zHold ns nt nh (nI j) ≤ 10 := Nat.le_trans (zHold_mono h1.1 h1.2.1 h1.2.2) (by unfold zHold; split; decide; split; decide; split; decide; split; decide; decide)
        omega
      rw [zcl_n (by omega), zcl_n hq2]
      exact zBd_num k.1.2 hj hq hx
    · exact k.1.2
theorem zIc_dn {V : Nat → Nat → Int32} {h h2 ns nt nh nb dn al m ks dn2 : Nat} {pg : Option (List zLine)} (k : zIc V h h2 ns nt nh nb dn al m ks pg) (hle : dn2 ≤ al) : zIc (zup V 31 (zup (V 31) 4 (nI dn2))) h h2 ns nt nh nb dn2 al m ks pg := by
  obtain ⟨⟨a1, a2⟩, ⟨b1, b2, b3, b4⟩, ⟨c1, c2, c3, c4, c5⟩, ⟨d1, d2, d3⟩, ⟨e1, e2, e3⟩, f1, g1⟩ := k
  exact ⟨⟨a1, zBd_ex (fun a ha => zup_ne (by omega)) a2⟩, ⟨b1, b2, b3, fun q hq => by rw [zup_ne (by omega)]; exact b4 q hq⟩, ⟨rfl, c2, hle, c4, c5⟩, ⟨d1, d2, d3⟩, ⟨e1, e2, e3⟩, f1, zLawOk_ex (zup_ne (by omega)) (zup_ne (by omega)) (zup_ne (by omega)) g1⟩
section S85
variable {g : zG} {l : Launch} {d i h h2 : Nat} {I : Nat → Nat → Int32} {L : Nat → Nat → Int64} {o : Option Nat} {Q : Option Value → zW → Prop}
theorem lw_undo (hd : 100 ≤ d) (hL31 : zgL g < 2 ^ 31) (hi : i + 6 ≤ zgL g) (hv : zIv I L h h2) (K0 : zLwK g l d i Q) : zLA g l d I L (h, h2, o) 1001 [(3, .int (nI i)), (0, .ref 1004), (1, .ref 0), (2, .ref 64)] Q := by
  obtain ⟨ns, nt, nh, nb, dn, al, m, ks, pg, hc, hM⟩ := id hv
  obtain ⟨hdn, hal, hle, h40, hBc⟩ := hc.2.2.1
  by_cases k1 : dn = 0
  ·
    refine zAloadN d_L_law_1001 rfl rfl (q := 1002) rfl ?_
    refine zCallVX d_L_law_1002 ml_L_135 k_X11_undo ki_X11_undo ks_X11_undo (sp_X11_undo (d := d - 1) (by omega) hc.1.1 hdn (by omega)) rfl rfl sh_0 (by decide) rfl (by decide) (Nat.le_of_ble_eq_true rfl) (by decide) (by omega) zns0 (q := 1005) rfl (fun x w' hw' => ?_)
    obtain ⟨-, rfl, rfl⟩ := hw'.resolve_right (fun z => by have := z.1; omega)
    refine zAloadN d_L_law_1005 rfl rfl (q := 1006) rfl ?_
    refine zCallVX d_L_law_1006 ml_L_138 k_X12_undo ki_X12_undo ks_X12_undo (sp_X12_undo (V := I) (K := L) (pg := pg) (d := d - 1) (by omega) hM hc.1.1 hdn hal h40 hle hBc) rfl rfl sh_64 (by decide) rfl (by decide) (Nat.le_of_ble_eq_true rfl) (by decide) (by omega) zns0 (q := 1009) rfl (fun x w' hw' => ?_)
    obtain ⟨-, rfl, rfl⟩ := hw'.resolve_right (fun z => by have := z.1; omega)
    refine zIcmp_eq d_L_law_1009 (tgt := 1418) (q := 1012) (by decide) rfl (fun h1009 => ?_) (fun h => absurd rfl h)
    refine zSub [0, 1, 2, 3] rfl ?_
    exact K0 _ _ _ _ _ hv
  · obtain ⟨j, q, q1, q2, q3, q4, q5, q6⟩ := hBc (dn - 1) (by omega)
    refine zAloadN d_L_law_1001 rfl rfl (q := 1002) rfl ?_
    refine zCallVX d_L_law_1002 ml_L_135 k_X11_undo ki_X11_undo ks_X11_undo (sp_X11_undo (d := d - 1) (by omega) hc.1.1 hdn (by omega)) rfl rfl sh_0 (by decide) rfl (by decide) (Nat.le_of_ble_eq_true rfl) (by decide) (by omega) zns0 (q := 1005) rfl (fun x w' hw' => ?_)
    obtain ⟨-, rfl, rfl⟩ := hw'.resolve_left (fun z => k1 z.1)
    have c9 := zIc_lay (zIc_dn (dn2 := dn - 1) hc (by omega)) q1 q2 q5
    rw [← q3, ← q4] at c9
    refine zAloadN d_L_law_1005 rfl rfl (q := 1006) rfl ?_
    refine zCallVX d_L_law_1006 ml_L_138 k_X12_undo ki_X12_undo ks_X12_undo (sp_X12_undo (V := I) (K := L) (pg := pg) (d := d - 1) (by omega) (zMd_low (fun a ha ↦ by rw [zLay_ne (by omega), zup_ne (by omega)]) rfl hM) hc.1.1 hdn hal h40 hle hBc) rfl rfl sh_64 (by decide) rfl (by decide) (Nat.le_of_ble_eq_true rfl) (by decide) (by omega) zns0 (q := 1009) rfl (fun x w' hw' => ?_)
    obtain ⟨-, rfl, J, rfl, hf, hD⟩ := hw'.resolve_left (fun z => k1 z.1)
    refine zIcmp_eq d_L_law_1009 (tgt := 1418) (q := 1012) (by decide) rfl (fun h1009 => ?_) (fun h => absurd rfl h)
    refine zSub [0, 1, 2, 3] rfl ?_
    exact K0 _ _ _ _ _ (zIv_next c9 (fun a ha => hf a (by have := c9.2.2.2.2.2.1; omega)) hD (fun _ _ _ => rfl))
theorem lw_redo (hd : 100 ≤ d) (hL31 : zgL g < 2 ^ 31) (hi : i + 6 ≤ zgL g) (hv : zIv I L h h2) (K0 : zLwK g l d i Q) : zLA g l d I L (h, h2, o) 1014 [(3, .int (nI i)), (0, .ref 1004), (1, .ref 0), (2, .ref 64)] Q := by
  obtain ⟨ns, nt, nh, nb, dn, al, m, ks, pg, hc, hM⟩ := id hv
  obtain ⟨hdn, hal, hle, h40, hBc⟩ := hc.2.2.1
  by_cases k1 : dn = al
  ·
    refine zAloadN d_L_law_1014 rfl rfl (q := 1015) rfl ?_
    refine zCallVX d_L_law_1015 ml_L_139 k_X11_redo ki_X11_redo ks_X11_redo (sp_X11_redo (d := d - 1) (by omega) hc.1.1 hdn hal h40 hle) rfl rfl sh_0 (by decide) rfl (by decide) (Nat.le_of_ble_eq_true rfl) (by decide) (by omega) zns0 (q := 1018) rfl (fun x w' hw' => ?_)
    obtain ⟨-, rfl, rfl⟩ := hw'.resolve_right (fun z => by have := z.1; omega)
    refine zAloadN d_L_law_1018 rfl rfl (q := 1019) rfl ?_
    refine zCallVX d_L_law_1019 ml_L_142 k_X12_redo ki_X12_redo ks_X12_redo (sp_X12_redo (V := I) (K := L) (pg := pg) (d := d - 1) (by omega) hM hc.1.1 hdn hal h40 hle hBc) rfl rfl sh_64 (by decide) rfl (by decide) (Nat.le_of_ble_eq_true rfl) (by decide) (by omega) zns0 (q := 1022) rfl (fun x w' hw' => ?_)
    obtain ⟨-, rfl, rfl⟩ := hw'.resolve_right (fun z => by have := z.1; omega)
    refine zIcmp_eq d_L_law_1022 (tgt := 1418) (q := 1025) (by decide) rfl (fun h1022 => ?_) (fun h => absurd rfl h)
    refine zSub [0, 1, 2, 3] rfl ?_
    exact K0 _ _ _ _ _ hv
  · obtain ⟨j, q, q1, q2, q3, q4, q5, q6⟩ := hBc dn (by omega)
    refine zAloadN d_L_law_1014 rfl rfl (q := 1015) rfl ?_
    refine zCallVX d_L_law_1015 ml_L_139 k_X11_redo ki_X11_redo ks_X11_redo (sp_X11_redo (d := d - 1) (by omega) hc.1.1 hdn hal h40 hle) rfl rfl sh_0 (by decide) rfl (by decide) (Nat.le_of_ble_eq_true rfl) (by decide) (by omega) zns0 (q := 1018) rfl (fun x w' hw' => ?_)
    obtain ⟨-, rfl, rfl⟩ := hw'.resolve_left (fun z => k1 z.1)
    have c9 := zIc_dn (dn2 := dn + 1) (zIc_lay hc q1 q2 q6) (by omega)
    rw [← q3, ← q4, zLay_ne (a := 31) (by omega)] at c9
    refine zAloadN d_L_law_1018 rfl rfl (q := 1019) rfl ?_
    refine zCallVX d_L_law_1019 ml_L_142 k_X12_redo ki_X12_redo ks_X12_redo (sp_X12_redo (V := I) (K := L) (pg := pg) (d := d - 1) (by omega) (zMd_low (fun a ha ↦ by rw [zup_ne (by omega), zLay_ne (by omega)]) rfl hM) hc.1.1 hdn hal h40 hle hBc) rfl rfl sh_64 (by decide) rfl (by decide) (Nat.le_of_ble_eq_true rfl) (by decide) (by omega) zns0 (q := 1022) rfl (fun x w' hw' => ?_)
    obtain ⟨-, rfl, J, rfl, hf, hD⟩ := hw'.resolve_left (fun z => k1 z.1)
    refine zIcmp_eq d_L_law_1022 (tgt := 1418) (q := 1025) (by decide) rfl (fun h1022 => ?_) (fun h => absurd rfl h)
    refine zSub [0, 1, 2, 3] rfl ?_
    exact K0 _ _ _ _ _ (zIv_next c9 (fun a ha => hf a (by have := c9.2.2.2.2.2.1; omega)) hD (fun _ _ _ => rfl))
end S85

