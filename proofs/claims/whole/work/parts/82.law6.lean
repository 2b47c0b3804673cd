/-! THE LAW: ODDS, A ROW -/
theorem zShB_row {F : Nat → Int32} {nb : Nat} {b n : Int32} (h1 : 0 ≤ b ∧ b ≤ 4 ∧ n ≤ 60) (h2 : 0 ≤ n) : zShB (zup (zup F 1 b) 2 n) nb := by
  obtain ⟨s, hs, es⟩ := zn1 (x := b) (n := 5) (by decide) h1.1 (by have := h1.2.1; show b < 5; grind)
  obtain ⟨q, hq, eq⟩ := zn1 (x := n) (n := 61) (by decide) h2 (by have := h1.2.2; show n < 61; grind)
  exact ⟨Or.inr (Or.inl ⟨s, hs, es⟩), q, by omega, eq⟩
section S82
variable {g : zG} {l : Launch} {d i h h2 : Nat} {I : Nat → Nat → Int32} {L : Nat → Nat → Int64} {o : Option Nat} {Q : Option Value → zW → Prop}
theorem lw_odds (hd : 100 ≤ d) (hL31 : zgL g < 2 ^ 31) (hi : i + 6 ≤ zgL g) (hv : zIv I L h h2) (K0 : zLwK g l d i Q) : zLA g l d I L (h, h2, o) 436 [(3, .int (nI i)), (0, .ref 1004), (1, .ref 0), (2, .ref 64)] Q := by
  obtain ⟨ns, nt, nh, nb, dn, al, m, ks, pg, hc, hM⟩ := id hv
  have hh := hc.2.2.2.2.2.1
  have hw : zLwf h := by
    rcases hh with ⟨e, -⟩ | ⟨e, -⟩
    · rw [e]; exact zlw54
    · rw [e]; exact zlw59
  by_cases k1 : zThr ns nt (zgX g (i + 1))
  · obtain ⟨s, t, hs, ht, q1, q2⟩ := zThr_of hc.1.1.2.1 hc.1.1.2.2.1 k1
    refine zAloadN d_L_law_436 rfl rfl (q := 437) rfl ?_
    refine zAloadN d_L_law_437 rfl rfl (q := 438) rfl ?_
    refine zIloadN d_L_law_438 rfl rfl (q := 439) rfl ?_
    refine zIconst d_L_law_439 (v := 1) ic_1 (q := 440) rfl ?_
    refine zIadd d_L_law_440 (q := 441) rfl ?_
    refine zSld d_L_law_441 (nI_add i 1) (by omega) hL31 (q := 442) rfl ?_
    refine zCallVX d_L_law_442 ml_L_49 k_X11_odds ki_X11_odds ks_X11_odds (sp_X11_odds (d := d - 1) (by omega) hc.1.1 hw hc.2.2.2.2.2.2 k1 hs ht q1 q2) rfl rfl sh_0 (by decide) rfl (by decide) (Nat.le_of_ble_eq_true rfl) (by decide) (by omega) zns0 (q := 445) rfl (fun x w' hw' => ?_)
    obtain ⟨rfl, F, G, rfl⟩ := hw'
    have hM1 : zMd (zup (zup I (h + 4) F) (h + 3) G) L I L pg := zMd_low (fun a ha => by rw [zup_ne (by omega), zup_ne (by omega)]) rfl hM
    refine zAloadN d_L_law_445 rfl rfl (q := 446) rfl ?_
    refine zAloadN d_L_law_446 rfl rfl (q := 447) rfl ?_
    refine zIloadN d_L_law_447 rfl rfl (q := 448) rfl ?_
    refine zIconst d_L_law_448 (v := 1) ic_1 (q := 449) rfl ?_
    refine zIadd d_L_law_449 (q := 450) rfl ?_
    refine zSld d_L_law_450 (nI_add i 1) (by omega) hL31 (q := 451) rfl ?_
    refine zCallVX d_L_law_451 ml_L_52 k_X12_odds ki_X12_odds ks_X12_odds (sp_X12_odds (V := I) (d := d - 1) (by omega) hM1.1 hc.1.1 hM1.2.2.2.2.2.2 k1 hs ht q1 q2) rfl rfl sh_64 (by decide) rfl (by decide) (Nat.le_of_ble_eq_true rfl) (by decide) (by omega) zns0 (q := 454) rfl (fun x w' hw' => ?_)
    obtain ⟨rfl, J, rfl, hJ⟩ := hw'
    refine zIcmp_eq d_L_law_454 (tgt := 1418) (q := 457) (by decide) rfl (fun h454 => ?_) (fun h => absurd rfl h)
    refine zSub [0, 1, 2, 3] rfl ?_
    exact K0 _ _ _ _ _ (zIv_next (V' := I) hc (fun a ha => (hJ a (by omega) (by omega)).trans (by rw [zup_ne (by omega), zup_ne (by omega)])) (zMd_dr (I := zup (zup I (h + 4) F) (h + 3) G) (fun a ha => hJ a (by omega) (by omega)) hM1) (fun _ _ _ => rfl))
  ·
    refine zAloadN d_L_law_436 rfl rfl (q := 437) rfl ?_
    refine zAloadN d_L_law_437 rfl rfl (q := 438) rfl ?_
    refine zIloadN d_L_law_438 rfl rfl (q := 439) rfl ?_
    refine zIconst d_L_law_439 (v := 1) ic_1 (q := 440) rfl ?_
    refine zIadd d_L_law_440 (q := 441) rfl ?_
    refine zSld d_L_law_441 (nI_add i 1) (by omega) hL31 (q := 442) rfl ?_
    refine zCallVP d_L_law_442 ml_L_49 k_X11_odds ki_X11_odds ks_X11_odds (sp_X11_odds0 (d := d - 1) (by omega) hc.1.1 k1) rfl rfl sh_0 (by decide) rfl (by decide) (Nat.le_of_ble_eq_true rfl) (by decide) (by omega) zns0 (q := 445) rfl ?_
    refine zAloadN d_L_law_445 rfl rfl (q := 446) rfl ?_
    refine zAloadN d_L_law_446 rfl rfl (q := 447) rfl ?_
    refine zIloadN d_L_law_447 rfl rfl (q := 448) rfl ?_
    refine zIconst d_L_law_448 (v := 1) ic_1 (q := 449) rfl ?_
    refine zIadd d_L_law_449 (q := 450) rfl ?_
    refine zSld d_L_law_450 (nI_add i 1) (by omega) hL31 (q := 451) rfl ?_
    refine zCallVP d_L_law_451 ml_L_52 k_X12_odds ki_X12_odds ks_X12_odds (sp_X12_odds0 (V := I) (d := d - 1) (by omega) hM.1 hc.1.1 k1) rfl rfl sh_64 (by decide) rfl (by decide) (Nat.le_of_ble_eq_true rfl) (by decide) (by omega) zns0 (q := 454) rfl ?_
    refine zIcmp_eq d_L_law_454 (tgt := 1418) (q := 457) (by decide) rfl (fun h454 => ?_) (fun h => absurd rfl h)
    refine zSub [0, 1, 2, 3] rfl ?_
    exact K0 _ _ _ _ _ hv
theorem lw_row (hd : 100 ≤ d) (hL31 : zgL g < 2 ^ 31) (hi : i + 6 ≤ zgL g) (hv : zIv I L h h2) (K0 : zLwK g l d i Q) : zLA g l d I L (h, h2, o) 1149 [(3, .int (nI i)), (0, .ref 1004), (1, .ref 0), (2, .ref 64)] Q := by
  obtain ⟨ns, nt, nh, nb, dn, al, m, ks, pg, hc, hM⟩ := id hv
  by_cases hr : 0 ≤ zgX g (i + 1) ∧ zgX g (i + 1) < 6
  · obtain ⟨k, hk, ek⟩ := zn1 (x := zgX g (i + 1)) (n := 6) (by decide) hr.1 hr.2
    by_cases k1 : 0 ≤ zgX g (i + 2) ∧ zgX g (i + 2) ≤ 4 ∧ zgX g (i + 3) ≤ 60
    · by_cases k2 : 0 ≤ zgX g (i + 3)
      ·
        refine zAloadN d_L_law_1149 rfl rfl (q := 1150) rfl ?_
        refine zAloadN d_L_law_1150 rfl rfl (q := 1151) rfl ?_
        refine zIloadN d_L_law_1151 rfl rfl (q := 1152) rfl ?_
        refine zIconst d_L_law_1152 (v := 1) ic_1 (q := 1153) rfl ?_
        refine zIadd d_L_law_1153 (q := 1154) rfl ?_
        refine zSld d_L_law_1154 (nI_add i 1) (by omega) hL31 (q := 1155) rfl ?_
        rw [ek]
        refine zAloadN d_L_law_1155 rfl rfl (q := 1156) rfl ?_
        refine zIloadN d_L_law_1156 rfl rfl (q := 1157) rfl ?_
        refine zIconst d_L_law_1157 (v := 2) ic_2 (q := 1158) rfl ?_
        refine zIadd d_L_law_1158 (q := 1159) rfl ?_
        refine zSld d_L_law_1159 (nI_add i 2) (by omega) hL31 (q := 1160) rfl ?_
        refine zAloadN d_L_law_1160 rfl rfl (q := 1161) rfl ?_
        refine zIloadN d_L_law_1161 rfl rfl (q := 1162) rfl ?_
        refine zIconst d_L_law_1162 (v := 3) ic_3 (q := 1163) rfl ?_
        refine zIadd d_L_law_1163 (q := 1164) rfl ?_
        refine zSld d_L_law_1164 (nI_add i 3) (by omega) hL31 (q := 1165) rfl ?_
        refine zCallVX d_L_law_1165 ml_L_159 k_X11_row ki_X11_row ks_X11_row (sp_X11_row (d := d - 1) (by omega) hk) rfl rfl sh_0 (by decide) rfl (by decide) (Nat.le_of_ble_eq_true rfl) (by decide) (by omega) zns0 (q := 1168) rfl (fun x w' hw' => ?_)
        obtain ⟨-, -, rfl, rfl⟩ := (hw'.resolve_left (fun z => z.1 k1)).resolve_left (fun z => Int32.not_lt.mpr k2 z.2.1)
        have c9 := zIc_shelf hc hk (V' := zHoldI I (42 + 2 * k) (zgX g (i + 2)) (zgX g (i + 3))) (fun a ha => zup_ne ha) (by unfold zHoldI; rw [zup_eq]; exact zShB_row k1 k2)
        refine zAloadN d_L_law_1168 rfl rfl (q := 1169) rfl ?_
        refine zAloadN d_L_law_1169 rfl rfl (q := 1170) rfl ?_
        refine zIloadN d_L_law_1170 rfl rfl (q := 1171) rfl ?_
        refine zIconst d_L_law_1171 (v := 1) ic_1 (q := 1172) rfl ?_
        refine zIadd d_L_law_1172 (q := 1173) rfl ?_
        refine zSld d_L_law_1173 (nI_add i 1) (by omega) hL31 (q := 1174) rfl ?_
        rw [ek]
        refine zAloadN d_L_law_1174 rfl rfl (q := 1175) rfl ?_
        refine zIloadN d_L_law_1175 rfl rfl (q := 1176) rfl ?_
        refine zIconst d_L_law_1176 (v := 2) ic_2 (q := 1177) rfl ?_
        refine zIadd d_L_law_1177 (q := 1178) rfl ?_
        refine zSld d_L_law_1178 (nI_add i 2) (by omega) hL31 (q := 1179) rfl ?_
        refine zAloadN d_L_law_1179 rfl rfl (q := 1180) rfl ?_
        refine zIloadN d_L_law_1180 rfl rfl (q := 1181) rfl ?_
        refine zIconst d_L_law_1181 (v := 3) ic_3 (q := 1182) rfl ?_
        refine zIadd d_L_law_1182 (q := 1183) rfl ?_
        refine zSld d_L_law_1183 (nI_add i 3) (by omega) hL31 (q := 1184) rfl ?_
        refine zCallVX d_L_law_1184 ml_L_162 k_X12_row ki_X12_row ks_X12_row (sp_X12_row (V := I) (K := L) (pg := pg) (d := d - 1) (by omega) (zMd_low (fun a ha ↦ by unfold zHoldI; rw [zup_ne (by omega)]) (zup_ne (by omega)) hM) hk) rfl rfl sh_64 (by decide) rfl (by decide) (Nat.le_of_ble_eq_true rfl) (by decide) (by omega) zns0 (q := 1187) rfl (fun x w' hw' => ?_)
        obtain ⟨-, -, rfl, J, L9, rfl, hf, hL9, hD⟩ := (hw'.resolve_left (fun z => z.1 k1)).resolve_left (fun z => Int32.not_lt.mpr k2 z.2.1)
        refine zIcmp_eq d_L_law_1187 (tgt := 1418) (q := 1190) (by decide) rfl (fun h1187 => ?_) (fun h => absurd rfl h)
        refine zSub [0, 1, 2, 3] rfl ?_
        exact K0 _ _ _ _ _ (zIv_next c9 (fun a ha => hf a (by have := c9.2.2.2.2.2.1; omega)) hD (fun a h1 h2 => hL9 a (by omega)))
      ·
        refine zAloadN d_L_law_1149 rfl rfl (q := 1150) rfl ?_
        refine zAloadN d_L_law_1150 rfl rfl (q := 1151) rfl ?_
        refine zIloadN d_L_law_1151 rfl rfl (q := 1152) rfl ?_
        refine zIconst d_L_law_1152 (v := 1) ic_1 (q := 1153) rfl ?_
        refine zIadd d_L_law_1153 (q := 1154) rfl ?_
        refine zSld d_L_law_1154 (nI_add i 1) (by omega) hL31 (q := 1155) rfl ?_
        rw [ek]
        refine zAloadN d_L_law_1155 rfl rfl (q := 1156) rfl ?_
        refine zIloadN d_L_law_1156 rfl rfl (q := 1157) rfl ?_
        refine zIconst d_L_law_1157 (v := 2) ic_2 (q := 1158) rfl ?_
        refine zIadd d_L_law_1158 (q := 1159) rfl ?_
        refine zSld d_L_law_1159 (nI_add i 2) (by omega) hL31 (q := 1160) rfl ?_
        refine zAloadN d_L_law_1160 rfl rfl (q := 1161) rfl ?_
        refine zIloadN d_L_law_1161 rfl rfl (q := 1162) rfl ?_
        refine zIconst d_L_law_1162 (v := 3) ic_3 (q := 1163) rfl ?_
        refine zIadd d_L_law_1163 (q := 1164) rfl ?_
        refine zSld d_L_law_1164 (nI_add i 3) (by omega) hL31 (q := 1165) rfl ?_
        refine zCallVX d_L_law_1165 ml_L_159 k_X11_row ki_X11_row ks_X11_row (sp_X11_row (d := d - 1) (by omega) hk) rfl rfl sh_0 (by decide) rfl (by decide) (Nat.le_of_ble_eq_true rfl) (by decide) (by omega) zns0 (q := 1168) rfl (fun x w' hw' => ?_)
        obtain ⟨-, -, rfl, rfl⟩ := (hw'.resolve_left (fun z => z.1 k1)).resolve_right (fun z => k2 z.2.1)
        refine zAloadN d_L_law_1168 rfl rfl (q := 1169) rfl ?_
        refine zAloadN d_L_law_1169 rfl rfl (q := 1170) rfl ?_
        refine zIloadN d_L_law_1170 rfl rfl (q := 1171) rfl ?_
        refine zIconst d_L_law_1171 (v := 1) ic_1 (q := 1172) rfl ?_
        refine zIadd d_L_law_1172 (q := 1173) rfl ?_
        refine zSld d_L_law_1173 (nI_add i 1) (by omega) hL31 (q := 1174) rfl ?_
        rw [ek]
        refine zAloadN d_L_law_1174 rfl rfl (q := 1175) rfl ?_
        refine zIloadN d_L_law_1175 rfl rfl (q := 1176) rfl ?_
        refine zIconst d_L_law_1176 (v := 2) ic_2 (q := 1177) rfl ?_
        refine zIadd d_L_law_1177 (q := 1178) rfl ?_
        refine zSld d_L_law_1178 (nI_add i 2) (by omega) hL31 (q := 1179) rfl ?_
        refine zAloadN d_L_law_1179 rfl rfl (q := 1180) rfl ?_
        refine zIloadN d_L_law_1180 rfl rfl (q := 1181) rfl ?_
        refine zIconst d_L_law_1181 (v := 3) ic_3 (q := 1182) rfl ?_
        refine zIadd d_L_law_1182 (q := 1183) rfl ?_
        refine zSld d_L_law_1183 (nI_add i 3) (by omega) hL31 (q := 1184) rfl ?_
        refine zCallVX d_L_law_1184 ml_L_162 k_X12_row ki_X12_row ks_X12_row (sp_X12_row (V := I) (K := L) (pg := pg) (d := d - 1) (by omega) hM hk) rfl rfl sh_64 (by decide) rfl (by decide) (Nat.le_of_ble_eq_true rfl) (by decide) (by omega) zns0 (q := 1187) rfl (fun x w' hw' => ?_)
        obtain ⟨-, -, rfl, rfl⟩ := (hw'.resolve_left (fun z => z.1 k1)).resolve_right (fun z => k2 z.2.1)
        refine zIcmp_eq d_L_law_1187 (tgt := 1418) (q := 1190) (by decide) rfl (fun h1187 => ?_) (fun h => absurd rfl h)
        refine zSub [0, 1, 2, 3] rfl ?_
        exact K0 _ _ _ _ _ hv
    ·
      refine zAloadN d_L_law_1149 rfl rfl (q := 1150) rfl ?_
      refine zAloadN d_L_law_1150 rfl rfl (q := 1151) rfl ?_
      refine zIloadN d_L_law_1151 rfl rfl (q := 1152) rfl ?_
      refine zIconst d_L_law_1152 (v := 1) ic_1 (q := 1153) rfl ?_
      refine zIadd d_L_law_1153 (q := 1154) rfl ?_
      refine zSld d_L_law_1154 (nI_add i 1) (by omega) hL31 (q := 1155) rfl ?_
      rw [ek]
      refine zAloadN d_L_law_1155 rfl rfl (q := 1156) rfl ?_
      refine zIloadN d_L_law_1156 rfl rfl (q := 1157) rfl ?_
      refine zIconst d_L_law_1157 (v := 2) ic_2 (q := 1158) rfl ?_
      refine zIadd d_L_law_1158 (q := 1159) rfl ?_
      refine zSld d_L_law_1159 (nI_add i 2) (by omega) hL31 (q := 1160) rfl ?_
      refine zAloadN d_L_law_1160 rfl rfl (q := 1161) rfl ?_
      refine zIloadN d_L_law_1161 rfl rfl (q := 1162) rfl ?_
      refine zIconst d_L_law_1162 (v := 3) ic_3 (q := 1163) rfl ?_
      refine zIadd d_L_law_1163 (q := 1164) rfl ?_
      refine zSld d_L_law_1164 (nI_add i 3) (by omega) hL31 (q := 1165) rfl ?_
      refine zCallVX d_L_law_1165 ml_L_159 k_X11_row ki_X11_row ks_X11_row (sp_X11_row (d := d - 1) (by omega) hk) rfl rfl sh_0 (by decide) rfl (by decide) (Nat.le_of_ble_eq_true rfl) (by decide) (by omega) zns0 (q := 1168) rfl (fun x w' hw' => ?_)
      obtain ⟨-, rfl, rfl⟩ := hw'.resolve_right (fun z => by rcases z with z | z <;> exact k1 z.1)
      refine zAloadN d_L_law_1168 rfl rfl (q := 1169) rfl ?_
      refine zAloadN d_L_law_1169 rfl rfl (q := 1170) rfl ?_
      refine zIloadN d_L_law_1170 rfl rfl (q := 1171) rfl ?_
      refine zIconst d_L_law_1171 (v := 1) ic_1 (q := 1172) rfl ?_
      refine zIadd d_L_law_1172 (q := 1173) rfl ?_
      refine zSld d_L_law_1173 (nI_add i 1) (by omega) hL31 (q := 1174) rfl ?_
      rw [ek]
      refine zAloadN d_L_law_1174 rfl rfl (q := 1175) rfl ?_
      refine zIloadN d_L_law_1175 rfl rfl (q := 1176) rfl ?_
      refine zIconst d_L_law_1176 (v := 2) ic_2 (q := 1177) rfl ?_
      refine zIadd d_L_law_1177 (q := 1178) rfl ?_
      refine zSld d_L_law_1178 (nI_add i 2) (by omega) hL31 (q := 1179) rfl ?_
      refine zAloadN d_L_law_1179 rfl rfl (q := 1180) rfl ?_
      refine zIloadN d_L_law_1180 rfl rfl (q := 1181) rfl ?_
      refine zIconst d_L_law_1181 (v := 3) ic_3 (q := 1182) rfl ?_
      refine zIadd d_L_law_1182 (q := 1183) rfl ?_
      refine zSld d_L_law_1183 (nI_add i 3) (by omega) hL31 (q := 1184) rfl ?_
      refine zCallVX d_L_law_1184 ml_L_162 k_X12_row ki_X12_row ks_X12_row (sp_X12_row (V := I) (K := L) (pg := pg) (d := d - 1) (by omega) hM hk) rfl rfl sh_64 (by decide) rfl (by decide) (Nat.le_of_ble_eq_true rfl) (by decide) (by omega) zns0 (q := 1187) rfl (fun x w' hw' => ?_)
      obtain ⟨-, rfl, rfl⟩ := hw'.resolve_right (fun z => by rcases z with z | z <;> exact k1 z.1)
      refine zIcmp_eq d_L_law_1187 (tgt := 1418) (q := 1190) (by decide) rfl (fun h1187 => ?_) (fun h => absurd rfl h)
      refine zSub [0, 1, 2, 3] rfl ?_
      exact K0 _ _ _ _ _ hv
  ·
    refine zAloadN d_L_law_1149 rfl rfl (q := 1150) rfl ?_
    refine zAloadN d_L_law_1150 rfl rfl (q := 1151) rfl ?_
    refine zIloadN d_L_law_1151 rfl rfl (q := 1152) rfl ?_
    refine zIconst d_L_law_1152 (v := 1) ic_1 (q := 1153) rfl ?_
    refine zIadd d_L_law_1153 (q := 1154) rfl ?_
    refine zSld d_L_law_1154 (nI_add i 1) (by omega) hL31 (q := 1155) rfl ?_
    refine zAloadN d_L_law_1155 rfl rfl (q := 1156) rfl ?_
    refine zIloadN d_L_law_1156 rfl rfl (q := 1157) rfl ?_
    refine zIconst d_L_law_1157 (v := 2) ic_2 (q := 1158) rfl ?_
    refine zIadd d_L_law_1158 (q := 1159) rfl ?_
    refine zSld d_L_law_1159 (nI_add i 2) (by omega) hL31 (q := 1160) rfl ?_
    refine zAloadN d_L_law_1160 rfl rfl (q := 1161) rfl ?_
    refine zIloadN d_L_law_1161 rfl rfl (q := 1162) rfl ?_
    refine zIconst d_L_law_1162 (v := 3) ic_3 (q := 1163) rfl ?_
    refine zIadd d_L_law_1163 (q := 1164) rfl ?_
    refine zSld d_L_law_1164 (nI_add i 3) (by omega) hL31 (q := 1165) rfl ?_
    refine zCallVP d_L_law_1165 ml_L_159 k_X11_row ki_X11_row ks_X11_row (sp_X11_row0 (d := d - 1) (by omega) hr) rfl rfl sh_0 (by decide) rfl (by decide) (Nat.le_of_ble_eq_true rfl) (by decide) (by omega) zns0 (q := 1168) rfl ?_
    refine zAloadN d_L_law_1168 rfl rfl (q := 1169) rfl ?_
    refine zAloadN d_L_law_1169 rfl rfl (q := 1170) rfl ?_
    refine zIloadN d_L_law_1170 rfl rfl (q := 1171) rfl ?_
    refine zIconst d_L_law_1171 (v := 1) ic_1 (q := 1172) rfl ?_
    refine zIadd d_L_law_1172 (q := 1173) rfl ?_
    refine zSld d_L_law_1173 (nI_add i 1) (by omega) hL31 (q := 1174) rfl ?_
    refine zAloadN d_L_law_1174 rfl rfl (q := 1175) rfl ?_
    refine zIloadN d_L_law_1175 rfl rfl (q := 1176) rfl ?_
    refine zIconst d_L_law_1176 (v := 2) ic_2 (q := 1177) rfl ?_
    refine zIadd d_L_law_1177 (q := 1178) rfl ?_
    refine zSld d_L_law_1178 (nI_add i 2) (by omega) hL31 (q := 1179) rfl ?_
    refine zAloadN d_L_law_1179 rfl rfl (q := 1180) rfl ?_
    refine zIloadN d_L_law_1180 rfl rfl (q := 1181) rfl ?_
    refine zIconst d_L_law_1181 (v := 3) ic_3 (q := 1182) rfl ?_
    refine zIadd d_L_law_1182 (q := 1183) rfl ?_
    refine zSld d_L_law_1183 (nI_add i 3) (by omega) hL31 (q := 1184) rfl ?_
    refine zCallVP d_L_law_1184 ml_L_162 k_X12_row ki_X12_row ks_X12_row (sp_X12_row0 (d := d - 1) (by omega) hr) rfl rfl sh_64 (by decide) rfl (by decide) (Nat.le_of_ble_eq_true rfl) (by decide) (by omega) zns0 (q := 1187) rfl ?_
    refine zIcmp_eq d_L_law_1187 (tgt := 1418) (q := 1190) (by decide) rfl (fun h1187 => ?_) (fun h => absurd rfl h)
    refine zSub [0, 1, 2, 3] rfl ?_
    exact K0 _ _ _ _ _ hv
end S82

