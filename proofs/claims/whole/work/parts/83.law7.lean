/-! THE LAW: A NEW LAW -/
theorem zMd_29 {I V V' : Nat → Nat → Int32} {L K : Nat → Nat → Int64} {pg : Option (List zLine)} (v : ∀ a, (a ≤ 15 ∨ (30 ≤ a ∧ a < 54)) → V' a = V a) (v1 : V' 29 1 = V 29 1) (hM : zMd I L V K pg) : zMd I L V' K pg :=
  ⟨zMs_ex ⟨rfl, rfl, rfl⟩ (fun _ _ => rfl) (fun a ha => v a (by omega)) hM.1, ⟨hM.2.1.1.trans v1.symm, by rw [v 30 (by omega)]; exact hM.2.1.2⟩, zMc_ex ⟨rfl, rfl⟩ (fun _ _ => rfl) (fun a ha => v a (by omega)) hM.2.2.1,
   zMi_ex (fun _ _ => rfl) rfl ⟨v _ (by decide), v _ (by decide)⟩ hM.2.2.2.1, zMa_ex ⟨rfl, rfl⟩ ⟨rfl, rfl⟩ ⟨v _ (by decide), v _ (by decide), v _ (by decide)⟩ hM.2.2.2.2.1,
   fun q hq => by rw [v (42 + 2 * q) (by omega)]; exact hM.2.2.2.2.2.1 q hq, hM.2.2.2.2.2.2⟩
theorem zIc_law {V J : Nat → Nat → Int32} {h h2 hx hy ns nt nh nb dn al m ks : Nat} {pg pg2 : Option (List zLine)} (k : zIc V h h2 ns nt nh nb dn al m ks pg) (hf : zFr V J h2) (hxy : (hx = 54 ∧ hy = 59) ∨ (hx = 59 ∧ hy = 54)) (hl : zLawOk J hx pg2) : zIc (zup J 29 (zup (J 29) 1 0)) hx hy ns nt nh nb dn al 0 ks pg2 := by
  obtain ⟨⟨a1, a2⟩, ⟨b1, b2, b3, b4⟩, ⟨c1, c2, c3, c4, c5⟩, ⟨d1, d2, d3⟩, ⟨e1, e2, e3⟩, f1, g1⟩ := k
  have v : ∀ a, a ≠ 29 → a < 54 → (zup J 29 (zup (J 29) 1 0)) a = V a := fun a ha hb => by rw [zup_ne ha]; exact hf.1 a ha (by omega) (by omega) (by omega)
  refine ⟨⟨zSky_of (v 1 (by decide) (by decide)) a1, zBd_ex (fun a ha => v a (by omega) (by omega)) a2⟩, ⟨by rw [v 38 (by decide) (by decide)]; exact b1, b2, ?_, fun q hq => by rw [v (42 + 2 * q) (by omega) (by omega)]; exact b4 q hq⟩,
    ⟨by rw [v 31 (by decide) (by decide)]; exact c1, by rw [v 31 (by decide) (by decide)]; exact c2, c3, c4, ?_⟩, ⟨rfl, Nat.zero_le _, by rw [v 30 (by decide) (by decide)]; exact d3⟩, ⟨by rw [v 36 (by decide) (by decide)]; exact e1, e2, by rw [v 36 (by decide) (by decide)]; exact e3⟩, hxy,
    zLawOk_ex (zup_ne (by omega)) (zup_ne (by omega)) (zup_ne (by omega)) hl⟩
  · intro i hi; rw [v 39 (by decide) (by decide)]; exact b3 i hi
  · intro i hi; rw [v 32 (by decide) (by decide), v 33 (by decide) (by decide), v 34 (by decide) (by decide), v 35 (by decide) (by decide)]; exact c5 i hi
section S83
variable {g : zG} {l : Launch} {d i h h2 : Nat} {I : Nat → Nat → Int32} {L : Nat → Nat → Int64} {o : Option Nat} {Q : Option Value → zW → Prop}
theorem lw_law (hd : 100 ≤ d) (hL31 : zgL g < 2 ^ 31) (hi : i + 6 ≤ zgL g) (hv : zIv I L h h2) (K0 : zLwK g l d i Q) : zLA g l d I L (h, h2, o) 423 [(3, .int (nI i)), (0, .ref 1004), (1, .ref 0), (2, .ref 64)] Q := by
  obtain ⟨ns, nt, nh, nb, dn, al, m, ks, pg, hc, hM⟩ := id hv
  have hh := hc.2.2.2.2.2.1
  obtain ⟨h29, hm, h30⟩ := hc.2.2.2.1
  have hw : zLwf h2 := by
    rcases hh with ⟨-, e⟩ | ⟨-, e⟩
    · rw [e]; exact zlw59
    · rw [e]; exact zlw54
  by_cases k1 : 0 ≤ zFa (I 30) m
  ·
    refine zAloadN d_L_law_423 rfl rfl (q := 424) rfl ?_
    refine zCallVX d_L_law_424 ml_L_44 k_X11_law ki_X11_law ks_X11_law (sp_X11_law (d := d - 1) (by omega) h29 hm hw (by omega)) rfl rfl sh_0 (by decide) rfl (by decide) (Nat.le_of_ble_eq_true rfl) (by decide) (by omega) zns0 (q := 427) rfl (fun x w' hw' => ?_)
    obtain ⟨J, hfr, hok, hw'⟩ := hw'
    obtain ⟨-, rfl, rfl⟩ := hw'.resolve_right (fun z => z.1 k1)
    have v1 : ∀ a, 64 ≤ a → (zup J 29 (zup (J 29) 1 0)) a = I a := fun a ha => by rw [zup_ne (by omega)]; exact hfr.1 a (by omega) (by omega) (by omega) (by omega)
    have hM1 : zMd (zup J 29 (zup (J 29) 1 0)) L I L pg := zMd_low v1 rfl hM
    have eF : zFa ((zup J 29 (zup (J 29) 1 0)) 79) m = zFa (I 30) m := by rw [hM1.2.1.2]; exact (zFa_cg (yRl_V h30)).symm
    have eR : zTR ((zup J 29 (zup (J 29) 1 0)) 79) m = zTR (I 30) m := by rw [hM1.2.1.2]; exact (zTR_cg (yRl_V h30)).symm
    refine zAloadN d_L_law_427 rfl rfl (q := 428) rfl ?_
    refine zCallVX d_L_law_428 ml_L_48 k_X12_law ki_X12_law ks_X12_law (sp_X12_law (d := d - 1) hM1 h29 hm (by omega)) rfl rfl sh_64 (by decide) rfl (by decide) (Nat.le_of_ble_eq_true rfl) (by decide) (by omega) zns0 (q := 431) rfl (fun x w' hw' => ?_)
    rw [eF, eR] at hw'
    obtain ⟨-, rfl, J', rfl, hf, hD⟩ := hw'.resolve_right (fun z => by rw [z.1] at k1; exact absurd k1 (by decide))
    have c9 := zIc_law hc hfr hh (zLawOk_ex (I := I) (hfr.1 h (by omega) (by omega) (by omega) (by omega)) (hfr.1 (h + 1) (by omega) (by omega) (by omega) (by omega)) (hfr.1 (h + 2) (by omega) (by omega) (by omega) (by omega)) hc.2.2.2.2.2.2)
    refine zIcmp_eq d_L_law_431 (tgt := 1418) (q := 434) (by decide) rfl (fun h431 => ?_) (fun h => absurd rfl h)
    refine zSub [0, 1, 2, 3] rfl ?_
    exact K0 _ _ _ _ _ (zIv_next c9 (fun a ha => hf a (by have := c9.2.2.2.2.2.1; omega)) (zMd_29 (V := zup I 29 (zup (I 29) 1 0)) (fun a ha => by rw [zup_ne (by omega), zup_ne (by omega)]; exact hfr.1 a (by omega) (by omega) (by omega) (by omega)) rfl hD) (fun _ _ _ => rfl))
  ·
    refine zAloadN d_L_law_423 rfl rfl (q := 424) rfl ?_
    refine zCallVX d_L_law_424 ml_L_44 k_X11_law ki_X11_law ks_X11_law (sp_X11_law (d := d - 1) (by omega) h29 hm hw (by omega)) rfl rfl sh_0 (by decide) rfl (by decide) (Nat.le_of_ble_eq_true rfl) (by decide) (by omega) zns0 (q := 427) rfl (fun x w' hw' => ?_)
    obtain ⟨J, hfr, hok, hw'⟩ := hw'
    obtain ⟨-, rfl, rfl⟩ := hw'.resolve_left (fun z => k1 z.1)
    have v1 : ∀ a, 64 ≤ a → (zup J 29 (zup (J 29) 1 0)) a = I a := fun a ha => by rw [zup_ne (by omega)]; exact hfr.1 a (by omega) (by omega) (by omega) (by omega)
    have hM1 : zMd (zup J 29 (zup (J 29) 1 0)) L I L pg := zMd_low v1 rfl hM
    have eF : zFa ((zup J 29 (zup (J 29) 1 0)) 79) m = zFa (I 30) m := by rw [hM1.2.1.2]; exact (zFa_cg (yRl_V h30)).symm
    have eR : zTR ((zup J 29 (zup (J 29) 1 0)) 79) m = zTR (I 30) m := by rw [hM1.2.1.2]; exact (zTR_cg (yRl_V h30)).symm
    refine zAloadN d_L_law_427 rfl rfl (q := 428) rfl ?_
    refine zCallVX d_L_law_428 ml_L_48 k_X12_law ki_X12_law ks_X12_law (sp_X12_law (d := d - 1) hM1 h29 hm (by omega)) rfl rfl sh_64 (by decide) rfl (by decide) (Nat.le_of_ble_eq_true rfl) (by decide) (by omega) zns0 (q := 431) rfl (fun x w' hw' => ?_)
    rw [eF, eR] at hw'
    obtain ⟨-, rfl, ls, hR, J', rfl, hf, hD⟩ := hw'.resolve_left (fun z => k1 z.1)
    have c9 := zIc_law (hx := h2) (hy := h) hc hfr (by omega) (hok ls hR)
    refine zIcmp_eq d_L_law_431 (tgt := 1418) (q := 434) (by decide) rfl (fun h431 => ?_) (fun h => absurd rfl h)
    refine zSub [0, 1, 2, 3] rfl ?_
    exact K0 _ _ _ _ _ (zIv_next c9 (fun a ha => hf a (by have := c9.2.2.2.2.2.1; omega)) (zMd_29 (V := zup I 29 (zup (I 29) 1 0)) (fun a ha => by rw [zup_ne (by omega), zup_ne (by omega)]; exact hfr.1 a (by omega) (by omega) (by omega) (by omega)) rfl hD) (fun _ _ _ => rfl))
end S83

