/-! THE LAW: STARS OUT OF A ROW -/
theorem zIc_strs {L : Nat → Nat → Int64} {h h2 nt nh nb dn al m ks r : Nat} {p : Int32} {pg : Option (List zLine)} : ∀ (f k ns : Nat) (V : Nat → Nat → Int32), zIc V h h2 ns nt nh nb dn al m ks pg → ∃ n1, zIc (zStrs L r p f k ns V).2.2 h h2 n1 nt nh nb dn al m ks pg ∧ ∀ a, 64 ≤ a → (zStrs L r p f k ns V).2.2 a = V a
  | 0, _, ns, _, h => ⟨ns, h, fun _ _ => rfl⟩
  | f + 1, k, ns, V, h => by
    by_cases c : (0 ≤ p ∧ p < V r 2) ∧ 0 ≤ (zAdd V ns (zT3 V L r p k).1 (zT3 V L r p k).2.1 (zT3 V L r p k).2.2).1
    · rw [zStrs_1 c]
      have y := (zAdd_iff h.1.1.2.1).mp c.2
      obtain ⟨a1, a2, a3, a4⟩ := zAdd_1 h.1.1 c.2
      rw [a2]
      obtain ⟨n1, q1, q2⟩ := zIc_strs (L := L) (r := r) (p := p) f (k + 1) (ns + 1) _ (zIc_star h a1 y.1 ⟨by decide, y.2.1⟩ ⟨by decide, y.2.2.1⟩)
      exact ⟨n1, q1, fun a ha => (q2 a ha).trans (a4 a (by omega))⟩
    · rw [zStrs_0 c]
      exact ⟨ns, h, fun _ _ => rfl⟩
section S84
variable {g : zG} {l : Launch} {d i h h2 : Nat} {I : Nat → Nat → Int32} {L : Nat → Nat → Int64} {o : Option Nat} {Q : Option Value → zW → Prop}
theorem lw_stars (hd : 100 ≤ d) (hL31 : zgL g < 2 ^ 31) (hi : i + 6 ≤ zgL g) (hv : zIv I L h h2) (K0 : zLwK g l d i Q) : zLA g l d I L (h, h2, o) 235 [(3, .int (nI i)), (0, .ref 1004), (1, .ref 0), (2, .ref 64)] Q := by
  obtain ⟨ns, nt, nh, nb, dn, al, m, ks, pg, hc, hM⟩ := id hv
  by_cases hr : 0 ≤ zgX g (i + 1) ∧ zgX g (i + 1) < 6
  · obtain ⟨k, hk, ek⟩ := zn1 (x := zgX g (i + 1)) (n := 6) (by decide) hr.1 hr.2
    obtain ⟨sz, hsz, em⟩ := (hc.2.1.2.2.2 k hk).2
    by_cases k1 : 1 ≤ zgX g (i + 3) ∧ zgX g (i + 3) ≤ 10
    · by_cases k3 : I (42 + 2 * k) 1 = 0
      ·
        refine zAloadN d_L_law_235 rfl rfl (q := 236) rfl ?_
        refine zAloadN d_L_law_236 rfl rfl (q := 237) rfl ?_
        refine zIloadN d_L_law_237 rfl rfl (q := 238) rfl ?_
        refine zIconst d_L_law_238 (v := 1) ic_1 (q := 239) rfl ?_
        refine zIadd d_L_law_239 (q := 240) rfl ?_
        refine zSld d_L_law_240 (nI_add i 1) (by omega) hL31 (q := 241) rfl ?_
        rw [ek]
        refine zAloadN d_L_law_241 rfl rfl (q := 242) rfl ?_
        refine zIloadN d_L_law_242 rfl rfl (q := 243) rfl ?_
        refine zIconst d_L_law_243 (v := 2) ic_2 (q := 244) rfl ?_
        refine zIadd d_L_law_244 (q := 245) rfl ?_
        refine zSld d_L_law_245 (nI_add i 2) (by omega) hL31 (q := 246) rfl ?_
        refine zAloadN d_L_law_246 rfl rfl (q := 247) rfl ?_
        refine zIloadN d_L_law_247 rfl rfl (q := 248) rfl ?_
        refine zIconst d_L_law_248 (v := 3) ic_3 (q := 249) rfl ?_
        refine zIadd d_L_law_249 (q := 250) rfl ?_
        refine zSld d_L_law_250 (nI_add i 3) (by omega) hL31 (q := 251) rfl ?_
        refine zCallVX d_L_law_251 ml_L_18 k_X11_stars ki_X11_stars ks_X11_stars (sp_X11_stars (d := d - 1) (by omega) hc.1.1 hk em hsz) rfl rfl sh_0 (by decide) rfl (by decide) (Nat.le_of_ble_eq_true rfl) (by decide) (by omega) zns0 (q := 254) rfl (fun x w' hw' => ?_)
        obtain ⟨-, -, rfl, rfl⟩ := ((hw'.resolve_left (fun z => z.1 k1)).resolve_left (fun z => by rw [k3] at z; exact absurd z.2.1 (by decide))).resolve_left (fun z => z.2.2.1 k3)
        obtain ⟨n1, c9, v1⟩ := zIc_strs (L := L) (r := 42 + 2 * k) (p := zgX g (i + 2)) (zgX g (i + 3)).toNatClampNeg 0 ns I hc
        refine zAloadN d_L_law_254 rfl rfl (q := 255) rfl ?_
        refine zAloadN d_L_law_255 rfl rfl (q := 256) rfl ?_
        refine zIloadN d_L_law_256 rfl rfl (q := 257) rfl ?_
        refine zIconst d_L_law_257 (v := 1) ic_1 (q := 258) rfl ?_
        refine zIadd d_L_law_258 (q := 259) rfl ?_
        refine zSld d_L_law_259 (nI_add i 1) (by omega) hL31 (q := 260) rfl ?_
        rw [ek]
        refine zAloadN d_L_law_260 rfl rfl (q := 261) rfl ?_
        refine zIloadN d_L_law_261 rfl rfl (q := 262) rfl ?_
        refine zIconst d_L_law_262 (v := 2) ic_2 (q := 263) rfl ?_
        refine zIadd d_L_law_263 (q := 264) rfl ?_
        refine zSld d_L_law_264 (nI_add i 2) (by omega) hL31 (q := 265) rfl ?_
        refine zAloadN d_L_law_265 rfl rfl (q := 266) rfl ?_
        refine zIloadN d_L_law_266 rfl rfl (q := 267) rfl ?_
        refine zIconst d_L_law_267 (v := 3) ic_3 (q := 268) rfl ?_
        refine zIadd d_L_law_268 (q := 269) rfl ?_
        refine zSld d_L_law_269 (nI_add i 3) (by omega) hL31 (q := 270) rfl ?_
        refine zCallVX d_L_law_270 ml_L_22 k_X12_stars ki_X12_stars ks_X12_stars (sp_X12_stars (V := I) (K := L) (pg := pg) (d := d - 1) (by omega) (zMd_low v1 rfl hM) hc.1.1 hc.2.1.2.2.2 hc.2.1.2.1 hk em hsz) rfl rfl sh_64 (by decide) rfl (by decide) (Nat.le_of_ble_eq_true rfl) (by decide) (by omega) zns0 (q := 273) rfl (fun x w' hw' => ?_)
        obtain ⟨-, -, rfl, J, rfl, hf, hD⟩ := ((hw'.resolve_left (fun z => z.1 k1)).resolve_left (fun z => by rw [k3] at z; exact absurd z.2.1 (by decide))).resolve_left (fun z => z.2.2.1 k3)
        refine zIcmp_eq d_L_law_273 (tgt := 1418) (q := 276) (by decide) rfl (fun h273 => ?_) (fun h => absurd rfl h)
        refine zSub [0, 1, 2, 3] rfl ?_
        exact K0 _ _ _ _ _ (zIv_next c9 (fun a ha => hf a (by have := c9.2.2.2.2.2.1; omega)) hD (fun _ _ _ => rfl))
      · by_cases k2 : I (42 + 2 * k) 1 = -1
        ·
          refine zAloadN d_L_law_235 rfl rfl (q := 236) rfl ?_
          refine zAloadN d_L_law_236 rfl rfl (q := 237) rfl ?_
          refine zIloadN d_L_law_237 rfl rfl (q := 238) rfl ?_
          refine zIconst d_L_law_238 (v := 1) ic_1 (q := 239) rfl ?_
          refine zIadd d_L_law_239 (q := 240) rfl ?_
          refine zSld d_L_law_240 (nI_add i 1) (by omega) hL31 (q := 241) rfl ?_
          rw [ek]
          refine zAloadN d_L_law_241 rfl rfl (q := 242) rfl ?_
          refine zIloadN d_L_law_242 rfl rfl (q := 243) rfl ?_
          refine zIconst d_L_law_243 (v := 2) ic_2 (q := 244) rfl ?_
          refine zIadd d_L_law_244 (q := 245) rfl ?_
          refine zSld d_L_law_245 (nI_add i 2) (by omega) hL31 (q := 246) rfl ?_
          refine zAloadN d_L_law_246 rfl rfl (q := 247) rfl ?_
          refine zIloadN d_L_law_247 rfl rfl (q := 248) rfl ?_
          refine zIconst d_L_law_248 (v := 3) ic_3 (q := 249) rfl ?_
          refine zIadd d_L_law_249 (q := 250) rfl ?_
          refine zSld d_L_law_250 (nI_add i 3) (by omega) hL31 (q := 251) rfl ?_
          refine zCallVX d_L_law_251 ml_L_18 k_X11_stars ki_X11_stars ks_X11_stars (sp_X11_stars (d := d - 1) (by omega) hc.1.1 hk em hsz) rfl rfl sh_0 (by decide) rfl (by decide) (Nat.le_of_ble_eq_true rfl) (by decide) (by omega) zns0 (q := 254) rfl (fun x w' hw' => ?_)
          obtain ⟨-, -, rfl, rfl⟩ := (hw'.resolve_left (fun z => z.1 k1)).resolve_right (fun z => by rcases z with z | z; exact z.2.1 k2; exact k3 z.2.1)
          refine zAloadN d_L_law_254 rfl rfl (q := 255) rfl ?_
          refine zAloadN d_L_law_255 rfl rfl (q := 256) rfl ?_
          refine zIloadN d_L_law_256 rfl rfl (q := 257) rfl ?_
          refine zIconst d_L_law_257 (v := 1) ic_1 (q := 258) rfl ?_
          refine zIadd d_L_law_258 (q := 259) rfl ?_
          refine zSld d_L_law_259 (nI_add i 1) (by omega) hL31 (q := 260) rfl ?_
          rw [ek]
          refine zAloadN d_L_law_260 rfl rfl (q := 261) rfl ?_
          refine zIloadN d_L_law_261 rfl rfl (q := 262) rfl ?_
          refine zIconst d_L_law_262 (v := 2) ic_2 (q := 263) rfl ?_
          refine zIadd d_L_law_263 (q := 264) rfl ?_
          refine zSld d_L_law_264 (nI_add i 2) (by omega) hL31 (q := 265) rfl ?_
          refine zAloadN d_L_law_265 rfl rfl (q := 266) rfl ?_
          refine zIloadN d_L_law_266 rfl rfl (q := 267) rfl ?_
          refine zIconst d_L_law_267 (v := 3) ic_3 (q := 268) rfl ?_
          refine zIadd d_L_law_268 (q := 269) rfl ?_
          refine zSld d_L_law_269 (nI_add i 3) (by omega) hL31 (q := 270) rfl ?_
          refine zCallVX d_L_law_270 ml_L_22 k_X12_stars ki_X12_stars ks_X12_stars (sp_X12_stars (V := I) (K := L) (pg := pg) (d := d - 1) (by omega) hM hc.1.1 hc.2.1.2.2.2 hc.2.1.2.1 hk em hsz) rfl rfl sh_64 (by decide) rfl (by decide) (Nat.le_of_ble_eq_true rfl) (by decide) (by omega) zns0 (q := 273) rfl (fun x w' hw' => ?_)
          obtain ⟨-, -, rfl, rfl⟩ := (hw'.resolve_left (fun z => z.1 k1)).resolve_right (fun z => by rcases z with z | z; exact z.2.1 k2; exact k3 z.2.1)
          refine zIcmp_eq d_L_law_273 (tgt := 1418) (q := 276) (by decide) rfl (fun h273 => ?_) (fun h => absurd rfl h)
          refine zSub [0, 1, 2, 3] rfl ?_
          exact K0 _ _ _ _ _ hv
        ·
          refine zAloadN d_L_law_235 rfl rfl (q := 236) rfl ?_
          refine zAloadN d_L_law_236 rfl rfl (q := 237) rfl ?_
          refine zIloadN d_L_law_237 rfl rfl (q := 238) rfl ?_
          refine zIconst d_L_law_238 (v := 1) ic_1 (q := 239) rfl ?_
          refine zIadd d_L_law_239 (q := 240) rfl ?_
          refine zSld d_L_law_240 (nI_add i 1) (by omega) hL31 (q := 241) rfl ?_
          rw [ek]
          refine zAloadN d_L_law_241 rfl rfl (q := 242) rfl ?_
          refine zIloadN d_L_law_242 rfl rfl (q := 243) rfl ?_
          refine zIconst d_L_law_243 (v := 2) ic_2 (q := 244) rfl ?_
          refine zIadd d_L_law_244 (q := 245) rfl ?_
          refine zSld d_L_law_245 (nI_add i 2) (by omega) hL31 (q := 246) rfl ?_
          refine zAloadN d_L_law_246 rfl rfl (q := 247) rfl ?_
          refine zIloadN d_L_law_247 rfl rfl (q := 248) rfl ?_
          refine zIconst d_L_law_248 (v := 3) ic_3 (q := 249) rfl ?_
          refine zIadd d_L_law_249 (q := 250) rfl ?_
          refine zSld d_L_law_250 (nI_add i 3) (by omega) hL31 (q := 251) rfl ?_
          refine zCallVX d_L_law_251 ml_L_18 k_X11_stars ki_X11_stars ks_X11_stars (sp_X11_stars (d := d - 1) (by omega) hc.1.1 hk em hsz) rfl rfl sh_0 (by decide) rfl (by decide) (Nat.le_of_ble_eq_true rfl) (by decide) (by omega) zns0 (q := 254) rfl (fun x w' hw' => ?_)
          obtain ⟨-, -, -, rfl, rfl⟩ := ((hw'.resolve_left (fun z => z.1 k1)).resolve_left (fun z => k2 z.2.1)).resolve_right (fun z => k3 z.2.1)
          refine zAloadN d_L_law_254 rfl rfl (q := 255) rfl ?_
          refine zAloadN d_L_law_255 rfl rfl (q := 256) rfl ?_
          refine zIloadN d_L_law_256 rfl rfl (q := 257) rfl ?_
          refine zIconst d_L_law_257 (v := 1) ic_1 (q := 258) rfl ?_
          refine zIadd d_L_law_258 (q := 259) rfl ?_
          refine zSld d_L_law_259 (nI_add i 1) (by omega) hL31 (q := 260) rfl ?_
          rw [ek]
          refine zAloadN d_L_law_260 rfl rfl (q := 261) rfl ?_
          refine zIloadN d_L_law_261 rfl rfl (q := 262) rfl ?_
          refine zIconst d_L_law_262 (v := 2) ic_2 (q := 263) rfl ?_
          refine zIadd d_L_law_263 (q := 264) rfl ?_
          refine zSld d_L_law_264 (nI_add i 2) (by omega) hL31 (q := 265) rfl ?_
          refine zAloadN d_L_law_265 rfl rfl (q := 266) rfl ?_
          refine zIloadN d_L_law_266 rfl rfl (q := 267) rfl ?_
          refine zIconst d_L_law_267 (v := 3) ic_3 (q := 268) rfl ?_
          refine zIadd d_L_law_268 (q := 269) rfl ?_
          refine zSld d_L_law_269 (nI_add i 3) (by omega) hL31 (q := 270) rfl ?_
          refine zCallVX d_L_law_270 ml_L_22 k_X12_stars ki_X12_stars ks_X12_stars (sp_X12_stars (V := I) (K := L) (pg := pg) (d := d - 1) (by omega) hM hc.1.1 hc.2.1.2.2.2 hc.2.1.2.1 hk em hsz) rfl rfl sh_64 (by decide) rfl (by decide) (Nat.le_of_ble_eq_true rfl) (by decide) (by omega) zns0 (q := 273) rfl (fun x w' hw' => ?_)
          obtain ⟨-, -, -, rfl, rfl⟩ := ((hw'.resolve_left (fun z => z.1 k1)).resolve_left (fun z => k2 z.2.1)).resolve_right (fun z => k3 z.2.1)
          refine zIcmp_eq d_L_law_273 (tgt := 1418) (q := 276) (by decide) rfl (fun h273 => ?_) (fun h => absurd rfl h)
          refine zSub [0, 1, 2, 3] rfl ?_
          exact K0 _ _ _ _ _ hv
    ·
      refine zAloadN d_L_law_235 rfl rfl (q := 236) rfl ?_
      refine zAloadN d_L_law_236 rfl rfl (q := 237) rfl ?_
      refine zIloadN d_L_law_237 rfl rfl (q := 238) rfl ?_
      refine zIconst d_L_law_238 (v := 1) ic_1 (q := 239) rfl ?_
      refine zIadd d_L_law_239 (q := 240) rfl ?_
      refine zSld d_L_law_240 (nI_add i 1) (by omega) hL31 (q := 241) rfl ?_
      rw [ek]
      refine zAloadN d_L_law_241 rfl rfl (q := 242) rfl ?_
      refine zIloadN d_L_law_242 rfl rfl (q := 243) rfl ?_
      refine zIconst d_L_law_243 (v := 2) ic_2 (q := 244) rfl ?_
      refine zIadd d_L_law_244 (q := 245) rfl ?_
      refine zSld d_L_law_245 (nI_add i 2) (by omega) hL31 (q := 246) rfl ?_
      refine zAloadN d_L_law_246 rfl rfl (q := 247) rfl ?_
      refine zIloadN d_L_law_247 rfl rfl (q := 248) rfl ?_
      refine zIconst d_L_law_248 (v := 3) ic_3 (q := 249) rfl ?_
      refine zIadd d_L_law_249 (q := 250) rfl ?_
      refine zSld d_L_law_250 (nI_add i 3) (by omega) hL31 (q := 251) rfl ?_
      refine zCallVX d_L_law_251 ml_L_18 k_X11_stars ki_X11_stars ks_X11_stars (sp_X11_stars (d := d - 1) (by omega) hc.1.1 hk em hsz) rfl rfl sh_0 (by decide) rfl (by decide) (Nat.le_of_ble_eq_true rfl) (by decide) (by omega) zns0 (q := 254) rfl (fun x w' hw' => ?_)
      obtain ⟨-, rfl, rfl⟩ := hw'.resolve_right (fun z => by rcases z with z | z | z <;> exact k1 z.1)
      refine zAloadN d_L_law_254 rfl rfl (q := 255) rfl ?_
      refine zAloadN d_L_law_255 rfl rfl (q := 256) rfl ?_
      refine zIloadN d_L_law_256 rfl rfl (q := 257) rfl ?_
      refine zIconst d_L_law_257 (v := 1) ic_1 (q := 258) rfl ?_
      refine zIadd d_L_law_258 (q := 259) rfl ?_
      refine zSld d_L_law_259 (nI_add i 1) (by omega) hL31 (q := 260) rfl ?_
      rw [ek]
      refine zAloadN d_L_law_260 rfl rfl (q := 261) rfl ?_
      refine zIloadN d_L_law_261 rfl rfl (q := 262) rfl ?_
      refine zIconst d_L_law_262 (v := 2) ic_2 (q := 263) rfl ?_
      refine zIadd d_L_law_263 (q := 264) rfl ?_
      refine zSld d_L_law_264 (nI_add i 2) (by omega) hL31 (q := 265) rfl ?_
      refine zAloadN d_L_law_265 rfl rfl (q := 266) rfl ?_
      refine zIloadN d_L_law_266 rfl rfl (q := 267) rfl ?_
      refine zIconst d_L_law_267 (v := 3) ic_3 (q := 268) rfl ?_
      refine zIadd d_L_law_268 (q := 269) rfl ?_
      refine zSld d_L_law_269 (nI_add i 3) (by omega) hL31 (q := 270) rfl ?_
      refine zCallVX d_L_law_270 ml_L_22 k_X12_stars ki_X12_stars ks_X12_stars (sp_X12_stars (V := I) (K := L) (pg := pg) (d := d - 1) (by omega) hM hc.1.1 hc.2.1.2.2.2 hc.2.1.2.1 hk em hsz) rfl rfl sh_64 (by decide) rfl (by decide) (Nat.le_of_ble_eq_true rfl) (by decide) (by omega) zns0 (q := 273) rfl (fun x w' hw' => ?_)
      obtain ⟨-, rfl, rfl⟩ := hw'.resolve_right (fun z => by rcases z with z | z | z <;> exact k1 z.1)
      refine zIcmp_eq d_L_law_273 (tgt := 1418) (q := 276) (by decide) rfl (fun h273 => ?_) (fun h => absurd rfl h)
      refine zSub [0, 1, 2, 3] rfl ?_
      exact K0 _ _ _ _ _ hv
  ·
    refine zAloadN d_L_law_235 rfl rfl (q := 236) rfl ?_
    refine zAloadN d_L_law_236 rfl rfl (q := 237) rfl ?_
    refine zIloadN d_L_law_237 rfl rfl (q := 238) rfl ?_
    refine zIconst d_L_law_238 (v := 1) ic_1 (q := 239) rfl ?_
    refine zIadd d_L_law_239 (q := 240) rfl ?_
    refine zSld d_L_law_240 (nI_add i 1) (by omega) hL31 (q := 241) rfl ?_
    refine zAloadN d_L_law_241 rfl rfl (q := 242) rfl ?_
    refine zIloadN d_L_law_242 rfl rfl (q := 243) rfl ?_
    refine zIconst d_L_law_243 (v := 2) ic_2 (q := 244) rfl ?_
    refine zIadd d_L_law_244 (q := 245) rfl ?_
    refine zSld d_L_law_245 (nI_add i 2) (by omega) hL31 (q := 246) rfl ?_
    refine zAloadN d_L_law_246 rfl rfl (q := 247) rfl ?_
    refine zIloadN d_L_law_247 rfl rfl (q := 248) rfl ?_
    refine zIconst d_L_law_248 (v := 3) ic_3 (q := 249) rfl ?_
    refine zIadd d_L_law_249 (q := 250) rfl ?_
    refine zSld d_L_law_250 (nI_add i 3) (by omega) hL31 (q := 251) rfl ?_
    refine zCallVP d_L_law_251 ml_L_18 k_X11_stars ki_X11_stars ks_X11_stars (sp_X11_stars0 (d := d - 1) (by omega) hr) rfl rfl sh_0 (by decide) rfl (by decide) (Nat.le_of_ble_eq_true rfl) (by decide) (by omega) zns0 (q := 254) rfl ?_
    refine zAloadN d_L_law_254 rfl rfl (q := 255) rfl ?_
    refine zAloadN d_L_law_255 rfl rfl (q := 256) rfl ?_
    refine zIloadN d_L_law_256 rfl rfl (q := 257) rfl ?_
    refine zIconst d_L_law_257 (v := 1) ic_1 (q := 258) rfl ?_
    refine zIadd d_L_law_258 (q := 259) rfl ?_
    refine zSld d_L_law_259 (nI_add i 1) (by omega) hL31 (q := 260) rfl ?_
    refine zAloadN d_L_law_260 rfl rfl (q := 261) rfl ?_
    refine zIloadN d_L_law_261 rfl rfl (q := 262) rfl ?_
    refine zIconst d_L_law_262 (v := 2) ic_2 (q := 263) rfl ?_
    refine zIadd d_L_law_263 (q := 264) rfl ?_
    refine zSld d_L_law_264 (nI_add i 2) (by omega) hL31 (q := 265) rfl ?_
    refine zAloadN d_L_law_265 rfl rfl (q := 266) rfl ?_
    refine zIloadN d_L_law_266 rfl rfl (q := 267) rfl ?_
    refine zIconst d_L_law_267 (v := 3) ic_3 (q := 268) rfl ?_
    refine zIadd d_L_law_268 (q := 269) rfl ?_
    refine zSld d_L_law_269 (nI_add i 3) (by omega) hL31 (q := 270) rfl ?_
    refine zCallVP d_L_law_270 ml_L_22 k_X12_stars ki_X12_stars ks_X12_stars (sp_X12_stars0 (d := d - 1) (by omega) hr) rfl rfl sh_64 (by decide) rfl (by decide) (Nat.le_of_ble_eq_true rfl) (by decide) (by omega) zns0 (q := 273) rfl ?_
    refine zIcmp_eq d_L_law_273 (tgt := 1418) (q := 276) (by decide) rfl (fun h273 => ?_) (fun h => absurd rfl h)
    refine zSub [0, 1, 2, 3] rfl ?_
    exact K0 _ _ _ _ _ hv
end S84

