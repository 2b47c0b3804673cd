/-! THE LAW: PUT, SHIFT -/
section S91
variable {g : zG} {l : Launch} {d i h h2 : Nat} {I : Nat → Nat → Int32} {L : Nat → Nat → Int64} {o : Option Nat} {Q : Option Value → zW → Prop}
theorem lw_put (hd : 100 ≤ d) (hL31 : zgL g < 2 ^ 31) (hi : i + 6 ≤ zgL g) (hv : zIv I L h h2) (K0 : zLwK g l d i Q) : zLA g l d I L (h, h2, o) 1192 [(3, .int (nI i)), (0, .ref 1004), (1, .ref 0), (2, .ref 64)] Q := by
  obtain ⟨ns, nt, nh, nb, dn, al, m, ks, pg, hc, hM⟩ := id hv
  by_cases hr : 0 ≤ zgX g (i + 1) ∧ zgX g (i + 1) < 6
  · obtain ⟨k, hk, ek⟩ := zn1 (x := zgX g (i + 1)) (n := 6) (by decide) hr.1 hr.2
    obtain ⟨sz, hsz, em⟩ := (hc.2.1.2.2.2 k hk).2
    by_cases k1 : 0 ≤ I (42 + 2 * k) 1 ∧ I (42 + 2 * k) 1 ≤ 4
    · by_cases k2 : 0 ≤ zgX g (i + 2) ∧ zgX g (i + 2) < nI sz
      ·
        refine zAloadN d_L_law_1192 rfl rfl (q := 1193) rfl ?_
        refine zAloadN d_L_law_1193 rfl rfl (q := 1194) rfl ?_
        refine zIloadN d_L_law_1194 rfl rfl (q := 1195) rfl ?_
        refine zIconst d_L_law_1195 (v := 1) ic_1 (q := 1196) rfl ?_
        refine zIadd d_L_law_1196 (q := 1197) rfl ?_
        refine zSld d_L_law_1197 (nI_add i 1) (by omega) hL31 (q := 1198) rfl ?_
        rw [ek]
        refine zAloadN d_L_law_1198 rfl rfl (q := 1199) rfl ?_
        refine zIloadN d_L_law_1199 rfl rfl (q := 1200) rfl ?_
        refine zIconst d_L_law_1200 (v := 2) ic_2 (q := 1201) rfl ?_
        refine zIadd d_L_law_1201 (q := 1202) rfl ?_
        refine zSld d_L_law_1202 (nI_add i 2) (by omega) hL31 (q := 1203) rfl ?_
        refine zAloadN d_L_law_1203 rfl rfl (q := 1204) rfl ?_
        refine zIloadN d_L_law_1204 rfl rfl (q := 1205) rfl ?_
        refine zIconst d_L_law_1205 (v := 3) ic_3 (q := 1206) rfl ?_
        refine zIadd d_L_law_1206 (q := 1207) rfl ?_
        refine zSld d_L_law_1207 (nI_add i 3) (by omega) hL31 (q := 1208) rfl ?_
        refine zI2l d_L_law_1208 (q := 1209) rfl ?_
        refine zBipush d_L_law_1209 (v := 32) bc_32 (q := 1211) rfl ?_
        refine zLshl d_L_law_1211 (q := 1212) rfl ?_
        refine zAloadN d_L_law_1212 rfl rfl (q := 1213) rfl ?_
        refine zIloadN d_L_law_1213 rfl rfl (q := 1214) rfl ?_
        refine zIconst d_L_law_1214 (v := 4) ic_4 (q := 1215) rfl ?_
        refine zIadd d_L_law_1215 (q := 1216) rfl ?_
        refine zSld d_L_law_1216 (nI_add i 4) (by omega) hL31 (q := 1217) rfl ?_
        refine zI2l d_L_law_1217 (q := 1218) rfl ?_
        refine zLdc2 d_L_law_1218 co_L_163 (q := 1221) rfl ?_
        refine zLand d_L_law_1221 (q := 1222) rfl ?_
        refine zLor d_L_law_1222 (q := 1223) rfl ?_
        refine zCallVX d_L_law_1223 ml_L_165 k_X11_put ki_X11_put ks_X11_put (sp_X11_put (d := d - 1) (by omega) hk em hsz) rfl rfl sh_0 (by decide) rfl (by decide) (Nat.le_of_ble_eq_true rfl) (by decide) (by omega) zns0 (q := 1226) rfl (fun x w' hw' => ?_)
        obtain ⟨-, -, rfl, rfl⟩ := (hw'.resolve_left (fun z => z.1 k1)).resolve_left (fun z => z.2.1 k2)
        refine zAloadN d_L_law_1226 rfl rfl (q := 1227) rfl ?_
        refine zAloadN d_L_law_1227 rfl rfl (q := 1228) rfl ?_
        refine zIloadN d_L_law_1228 rfl rfl (q := 1229) rfl ?_
        refine zIconst d_L_law_1229 (v := 1) ic_1 (q := 1230) rfl ?_
        refine zIadd d_L_law_1230 (q := 1231) rfl ?_
        refine zSld d_L_law_1231 (nI_add i 1) (by omega) hL31 (q := 1232) rfl ?_
        rw [ek]
        refine zAloadN d_L_law_1232 rfl rfl (q := 1233) rfl ?_
        refine zIloadN d_L_law_1233 rfl rfl (q := 1234) rfl ?_
        refine zIconst d_L_law_1234 (v := 2) ic_2 (q := 1235) rfl ?_
        refine zIadd d_L_law_1235 (q := 1236) rfl ?_
        refine zSld d_L_law_1236 (nI_add i 2) (by omega) hL31 (q := 1237) rfl ?_
        refine zAloadN d_L_law_1237 rfl rfl (q := 1238) rfl ?_
        refine zIloadN d_L_law_1238 rfl rfl (q := 1239) rfl ?_
        refine zIconst d_L_law_1239 (v := 3) ic_3 (q := 1240) rfl ?_
        refine zIadd d_L_law_1240 (q := 1241) rfl ?_
        refine zSld d_L_law_1241 (nI_add i 3) (by omega) hL31 (q := 1242) rfl ?_
        refine zI2l d_L_law_1242 (q := 1243) rfl ?_
        refine zBipush d_L_law_1243 (v := 32) bc_32 (q := 1245) rfl ?_
        refine zLshl d_L_law_1245 (q := 1246) rfl ?_
        refine zAloadN d_L_law_1246 rfl rfl (q := 1247) rfl ?_
        refine zIloadN d_L_law_1247 rfl rfl (q := 1248) rfl ?_
        refine zIconst d_L_law_1248 (v := 4) ic_4 (q := 1249) rfl ?_
        refine zIadd d_L_law_1249 (q := 1250) rfl ?_
        refine zSld d_L_law_1250 (nI_add i 4) (by omega) hL31 (q := 1251) rfl ?_
        refine zI2l d_L_law_1251 (q := 1252) rfl ?_
        refine zLdc2 d_L_law_1252 co_L_163 (q := 1255) rfl ?_
        refine zLand d_L_law_1255 (q := 1256) rfl ?_
        refine zLor d_L_law_1256 (q := 1257) rfl ?_
        refine zCallVX d_L_law_1257 ml_L_169 k_X12_put ki_X12_put ks_X12_put (sp_X12_put (V := I) (K := L) (pg := pg) (nb := nb) (d := d - 1) (by omega) (zMd_low (fun _ _ ↦ rfl) (zup_ne (by omega)) hM) hc.2.1.2.2.2 hc.2.1.2.1 hk em hsz) rfl rfl sh_64 (by decide) rfl (by decide) (Nat.le_of_ble_eq_true rfl) (by decide) (by omega) zns0 (q := 1260) rfl (fun x w' hw' => ?_)
        obtain ⟨-, -, rfl, L9, rfl, hL9, hD⟩ := (hw'.resolve_left (fun z => z.1 k1)).resolve_left (fun z => z.2.1 k2)
        refine zIcmp_eq d_L_law_1260 (tgt := 1418) (q := 1263) (by decide) rfl (fun h1260 => ?_) (fun h => absurd rfl h)
        refine zSub [0, 1, 2, 3] rfl ?_
        exact K0 _ _ _ _ _ (zIv_next hc (fun _ _ => rfl) hD (fun a h1 h2 => hL9 a (by omega)))
      ·
        refine zAloadN d_L_law_1192 rfl rfl (q := 1193) rfl ?_
        refine zAloadN d_L_law_1193 rfl rfl (q := 1194) rfl ?_
        refine zIloadN d_L_law_1194 rfl rfl (q := 1195) rfl ?_
        refine zIconst d_L_law_1195 (v := 1) ic_1 (q := 1196) rfl ?_
        refine zIadd d_L_law_1196 (q := 1197) rfl ?_
        refine zSld d_L_law_1197 (nI_add i 1) (by omega) hL31 (q := 1198) rfl ?_
        rw [ek]
        refine zAloadN d_L_law_1198 rfl rfl (q := 1199) rfl ?_
        refine zIloadN d_L_law_1199 rfl rfl (q := 1200) rfl ?_
        refine zIconst d_L_law_1200 (v := 2) ic_2 (q := 1201) rfl ?_
        refine zIadd d_L_law_1201 (q := 1202) rfl ?_
        refine zSld d_L_law_1202 (nI_add i 2) (by omega) hL31 (q := 1203) rfl ?_
        refine zAloadN d_L_law_1203 rfl rfl (q := 1204) rfl ?_
        refine zIloadN d_L_law_1204 rfl rfl (q := 1205) rfl ?_
        refine zIconst d_L_law_1205 (v := 3) ic_3 (q := 1206) rfl ?_
        refine zIadd d_L_law_1206 (q := 1207) rfl ?_
        refine zSld d_L_law_1207 (nI_add i 3) (by omega) hL31 (q := 1208) rfl ?_
        refine zI2l d_L_law_1208 (q := 1209) rfl ?_
        refine zBipush d_L_law_1209 (v := 32) bc_32 (q := 1211) rfl ?_
        refine zLshl d_L_law_1211 (q := 1212) rfl ?_
        refine zAloadN d_L_law_1212 rfl rfl (q := 1213) rfl ?_
        refine zIloadN d_L_law_1213 rfl rfl (q := 1214) rfl ?_
        refine zIconst d_L_law_1214 (v := 4) ic_4 (q := 1215) rfl ?_
        refine zIadd d_L_law_1215 (q := 1216) rfl ?_
        refine zSld d_L_law_1216 (nI_add i 4) (by omega) hL31 (q := 1217) rfl ?_
        refine zI2l d_L_law_1217 (q := 1218) rfl ?_
        refine zLdc2 d_L_law_1218 co_L_163 (q := 1221) rfl ?_
        refine zLand d_L_law_1221 (q := 1222) rfl ?_
        refine zLor d_L_law_1222 (q := 1223) rfl ?_
        refine zCallVX d_L_law_1223 ml_L_165 k_X11_put ki_X11_put ks_X11_put (sp_X11_put (d := d - 1) (by omega) hk em hsz) rfl rfl sh_0 (by decide) rfl (by decide) (Nat.le_of_ble_eq_true rfl) (by decide) (by omega) zns0 (q := 1226) rfl (fun x w' hw' => ?_)
        obtain ⟨-, -, rfl, rfl⟩ := (hw'.resolve_left (fun z => z.1 k1)).resolve_right (fun z => k2 z.2.1)
        refine zAloadN d_L_law_1226 rfl rfl (q := 1227) rfl ?_
        refine zAloadN d_L_law_1227 rfl rfl (q := 1228) rfl ?_
        refine zIloadN d_L_law_1228 rfl rfl (q := 1229) rfl ?_
        refine zIconst d_L_law_1229 (v := 1) ic_1 (q := 1230) rfl ?_
        refine zIadd d_L_law_1230 (q := 1231) rfl ?_
        refine zSld d_L_law_1231 (nI_add i 1) (by omega) hL31 (q := 1232) rfl ?_
        rw [ek]
        refine zAloadN d_L_law_1232 rfl rfl (q := 1233) rfl ?_
        refine zIloadN d_L_law_1233 rfl rfl (q := 1234) rfl ?_
        refine zIconst d_L_law_1234 (v := 2) ic_2 (q := 1235) rfl ?_
        refine zIadd d_L_law_1235 (q := 1236) rfl ?_
        refine zSld d_L_law_1236 (nI_add i 2) (by omega) hL31 (q := 1237) rfl ?_
        refine zAloadN d_L_law_1237 rfl rfl (q := 1238) rfl ?_
        refine zIloadN d_L_law_1238 rfl rfl (q := 1239) rfl ?_
        refine zIconst d_L_law_1239 (v := 3) ic_3 (q := 1240) rfl ?_
        refine zIadd d_L_law_1240 (q := 1241) rfl ?_
        refine zSld d_L_law_1241 (nI_add i 3) (by omega) hL31 (q := 1242) rfl ?_
        refine zI2l d_L_law_1242 (q := 1243) rfl ?_
        refine zBipush d_L_law_1243 (v := 32) bc_32 (q := 1245) rfl ?_
        refine zLshl d_L_law_1245 (q := 1246) rfl ?_
        refine zAloadN d_L_law_1246 rfl rfl (q := 1247) rfl ?_
        refine zIloadN d_L_law_1247 rfl rfl (q := 1248) rfl ?_
        refine zIconst d_L_law_1248 (v := 4) ic_4 (q := 1249) rfl ?_
        refine zIadd d_L_law_1249 (q := 1250) rfl ?_
        refine zSld d_L_law_1250 (nI_add i 4) (by omega) hL31 (q := 1251) rfl ?_
        refine zI2l d_L_law_1251 (q := 1252) rfl ?_
        refine zLdc2 d_L_law_1252 co_L_163 (q := 1255) rfl ?_
        refine zLand d_L_law_1255 (q := 1256) rfl ?_
        refine zLor d_L_law_1256 (q := 1257) rfl ?_
        refine zCallVX d_L_law_1257 ml_L_169 k_X12_put ki_X12_put ks_X12_put (sp_X12_put (V := I) (K := L) (pg := pg) (nb := nb) (d := d - 1) (by omega) hM hc.2.1.2.2.2 hc.2.1.2.1 hk em hsz) rfl rfl sh_64 (by decide) rfl (by decide) (Nat.le_of_ble_eq_true rfl) (by decide) (by omega) zns0 (q := 1260) rfl (fun x w' hw' => ?_)
        obtain ⟨-, -, rfl, rfl⟩ := (hw'.resolve_left (fun z => z.1 k1)).resolve_right (fun z => k2 z.2.1)
        refine zIcmp_eq d_L_law_1260 (tgt := 1418) (q := 1263) (by decide) rfl (fun h1260 => ?_) (fun h => absurd rfl h)
        refine zSub [0, 1, 2, 3] rfl ?_
        exact K0 _ _ _ _ _ hv
    ·
      refine zAloadN d_L_law_1192 rfl rfl (q := 1193) rfl ?_
      refine zAloadN d_L_law_1193 rfl rfl (q := 1194) rfl ?_
      refine zIloadN d_L_law_1194 rfl rfl (q := 1195) rfl ?_
      refine zIconst d_L_law_1195 (v := 1) ic_1 (q := 1196) rfl ?_
      refine zIadd d_L_law_1196 (q := 1197) rfl ?_
      refine zSld d_L_law_1197 (nI_add i 1) (by omega) hL31 (q := 1198) rfl ?_
      rw [ek]
      refine zAloadN d_L_law_1198 rfl rfl (q := 1199) rfl ?_
      refine zIloadN d_L_law_1199 rfl rfl (q := 1200) rfl ?_
      refine zIconst d_L_law_1200 (v := 2) ic_2 (q := 1201) rfl ?_
      refine zIadd d_L_law_1201 (q := 1202) rfl ?_
      refine zSld d_L_law_1202 (nI_add i 2) (by omega) hL31 (q := 1203) rfl ?_
      refine zAloadN d_L_law_1203 rfl rfl (q := 1204) rfl ?_
      refine zIloadN d_L_law_1204 rfl rfl (q := 1205) rfl ?_
      refine zIconst d_L_law_1205 (v := 3) ic_3 (q := 1206) rfl ?_
      refine zIadd d_L_law_1206 (q := 1207) rfl ?_
      refine zSld d_L_law_1207 (nI_add i 3) (by omega) hL31 (q := 1208) rfl ?_
      refine zI2l d_L_law_1208 (q := 1209) rfl ?_
      refine zBipush d_L_law_1209 (v := 32) bc_32 (q := 1211) rfl ?_
      refine zLshl d_L_law_1211 (q := 1212) rfl ?_
      refine zAloadN d_L_law_1212 rfl rfl (q := 1213) rfl ?_
      refine zIloadN d_L_law_1213 rfl rfl (q := 1214) rfl ?_
      refine zIconst d_L_law_1214 (v := 4) ic_4 (q := 1215) rfl ?_
      refine zIadd d_L_law_1215 (q := 1216) rfl ?_
      refine zSld d_L_law_1216 (nI_add i 4) (by omega) hL31 (q := 1217) rfl ?_
      refine zI2l d_L_law_1217 (q := 1218) rfl ?_
      refine zLdc2 d_L_law_1218 co_L_163 (q := 1221) rfl ?_
      refine zLand d_L_law_1221 (q := 1222) rfl ?_
      refine zLor d_L_law_1222 (q := 1223) rfl ?_
      refine zCallVX d_L_law_1223 ml_L_165 k_X11_put ki_X11_put ks_X11_put (sp_X11_put (d := d - 1) (by omega) hk em hsz) rfl rfl sh_0 (by decide) rfl (by decide) (Nat.le_of_ble_eq_true rfl) (by decide) (by omega) zns0 (q := 1226) rfl (fun x w' hw' => ?_)
      obtain ⟨-, rfl, rfl⟩ := hw'.resolve_right (fun z => by rcases z with z | z <;> exact k1 z.1)
      refine zAloadN d_L_law_1226 rfl rfl (q := 1227) rfl ?_
      refine zAloadN d_L_law_1227 rfl rfl (q := 1228) rfl ?_
      refine zIloadN d_L_law_1228 rfl rfl (q := 1229) rfl ?_
      refine zIconst d_L_law_1229 (v := 1) ic_1 (q := 1230) rfl ?_
      refine zIadd d_L_law_1230 (q := 1231) rfl ?_
      refine zSld d_L_law_1231 (nI_add i 1) (by omega) hL31 (q := 1232) rfl ?_
      rw [ek]
      refine zAloadN d_L_law_1232 rfl rfl (q := 1233) rfl ?_
      refine zIloadN d_L_law_1233 rfl rfl (q := 1234) rfl ?_
      refine zIconst d_L_law_1234 (v := 2) ic_2 (q := 1235) rfl ?_
      refine zIadd d_L_law_1235 (q := 1236) rfl ?_
      refine zSld d_L_law_1236 (nI_add i 2) (by omega) hL31 (q := 1237) rfl ?_
      refine zAloadN d_L_law_1237 rfl rfl (q := 1238) rfl ?_
      refine zIloadN d_L_law_1238 rfl rfl (q := 1239) rfl ?_
      refine zIconst d_L_law_1239 (v := 3) ic_3 (q := 1240) rfl ?_
      refine zIadd d_L_law_1240 (q := 1241) rfl ?_
      refine zSld d_L_law_1241 (nI_add i 3) (by omega) hL31 (q := 1242) rfl ?_
      refine zI2l d_L_law_1242 (q := 1243) rfl ?_
      refine zBipush d_L_law_1243 (v := 32) bc_32 (q := 1245) rfl ?_
      refine zLshl d_L_law_1245 (q := 1246) rfl ?_
      refine zAloadN d_L_law_1246 rfl rfl (q := 1247) rfl ?_
      refine zIloadN d_L_law_1247 rfl rfl (q := 1248) rfl ?_
      refine zIconst d_L_law_1248 (v := 4) ic_4 (q := 1249) rfl ?_
      refine zIadd d_L_law_1249 (q := 1250) rfl ?_
      refine zSld d_L_law_1250 (nI_add i 4) (by omega) hL31 (q := 1251) rfl ?_
      refine zI2l d_L_law_1251 (q := 1252) rfl ?_
      refine zLdc2 d_L_law_1252 co_L_163 (q := 1255) rfl ?_
      refine zLand d_L_law_1255 (q := 1256) rfl ?_
      refine zLor d_L_law_1256 (q := 1257) rfl ?_
      refine zCallVX d_L_law_1257 ml_L_169 k_X12_put ki_X12_put ks_X12_put (sp_X12_put (V := I) (K := L) (pg := pg) (nb := nb) (d := d - 1) (by omega) hM hc.2.1.2.2.2 hc.2.1.2.1 hk em hsz) rfl rfl sh_64 (by decide) rfl (by decide) (Nat.le_of_ble_eq_true rfl) (by decide) (by omega) zns0 (q := 1260) rfl (fun x w' hw' => ?_)
      obtain ⟨-, rfl, rfl⟩ := hw'.resolve_right (fun z => by rcases z with z | z <;> exact k1 z.1)
      refine zIcmp_eq d_L_law_1260 (tgt := 1418) (q := 1263) (by decide) rfl (fun h1260 => ?_) (fun h => absurd rfl h)
      refine zSub [0, 1, 2, 3] rfl ?_
      exact K0 _ _ _ _ _ hv
  ·
    refine zAloadN d_L_law_1192 rfl rfl (q := 1193) rfl ?_
    refine zAloadN d_L_law_1193 rfl rfl (q := 1194) rfl ?_
    refine zIloadN d_L_law_1194 rfl rfl (q := 1195) rfl ?_
    refine zIconst d_L_law_1195 (v := 1) ic_1 (q := 1196) rfl ?_
    refine zIadd d_L_law_1196 (q := 1197) rfl ?_
    refine zSld d_L_law_1197 (nI_add i 1) (by omega) hL31 (q := 1198) rfl ?_
    refine zAloadN d_L_law_1198 rfl rfl (q := 1199) rfl ?_
    refine zIloadN d_L_law_1199 rfl rfl (q := 1200) rfl ?_
    refine zIconst d_L_law_1200 (v := 2) ic_2 (q := 1201) rfl ?_
    refine zIadd d_L_law_1201 (q := 1202) rfl ?_
    refine zSld d_L_law_1202 (nI_add i 2) (by omega) hL31 (q := 1203) rfl ?_
    refine zAloadN d_L_law_1203 rfl rfl (q := 1204) rfl ?_
    refine zIloadN d_L_law_1204 rfl rfl (q := 1205) rfl ?_
    refine zIconst d_L_law_1205 (v := 3) ic_3 (q := 1206) rfl ?_
    refine zIadd d_L_law_1206 (q := 1207) rfl ?_
    refine zSld d_L_law_1207 (nI_add i 3) (by omega) hL31 (q := 1208) rfl ?_
    refine zI2l d_L_law_1208 (q := 1209) rfl ?_
    refine zBipush d_L_law_1209 (v := 32) bc_32 (q := 1211) rfl ?_
    refine zLshl d_L_law_1211 (q := 1212) rfl ?_
    refine zAloadN d_L_law_1212 rfl rfl (q := 1213) rfl ?_
    refine zIloadN d_L_law_1213 rfl rfl (q := 1214) rfl ?_
    refine zIconst d_L_law_1214 (v := 4) ic_4 (q := 1215) rfl ?_
    refine zIadd d_L_law_1215 (q := 1216) rfl ?_
    refine zSld d_L_law_1216 (nI_add i 4) (by omega) hL31 (q := 1217) rfl ?_
    refine zI2l d_L_law_1217 (q := 1218) rfl ?_
    refine zLdc2 d_L_law_1218 co_L_163 (q := 1221) rfl ?_
    refine zLand d_L_law_1221 (q := 1222) rfl ?_
    refine zLor d_L_law_1222 (q := 1223) rfl ?_
    refine zCallVP d_L_law_1223 ml_L_165 k_X11_put ki_X11_put ks_X11_put (sp_X11_put0 (d := d - 1) (by omega) hr) rfl rfl sh_0 (by decide) rfl (by decide) (Nat.le_of_ble_eq_true rfl) (by decide) (by omega) zns0 (q := 1226) rfl ?_
    refine zAloadN d_L_law_1226 rfl rfl (q := 1227) rfl ?_
    refine zAloadN d_L_law_1227 rfl rfl (q := 1228) rfl ?_
    refine zIloadN d_L_law_1228 rfl rfl (q := 1229) rfl ?_
    refine zIconst d_L_law_1229 (v := 1) ic_1 (q := 1230) rfl ?_
    refine zIadd d_L_law_1230 (q := 1231) rfl ?_
    refine zSld d_L_law_1231 (nI_add i 1) (by omega) hL31 (q := 1232) rfl ?_
    refine zAloadN d_L_law_1232 rfl rfl (q := 1233) rfl ?_
    refine zIloadN d_L_law_1233 rfl rfl (q := 1234) rfl ?_
    refine zIconst d_L_law_1234 (v := 2) ic_2 (q := 1235) rfl ?_
    refine zIadd d_L_law_1235 (q := 1236) rfl ?_
    refine zSld d_L_law_1236 (nI_add i 2) (by omega) hL31 (q := 1237) rfl ?_
    refine zAloadN d_L_law_1237 rfl rfl (q := 1238) rfl ?_
    refine zIloadN d_L_law_1238 rfl rfl (q := 1239) rfl ?_
    refine zIconst d_L_law_1239 (v := 3) ic_3 (q := 1240) rfl ?_
    refine zIadd d_L_law_1240 (q := 1241) rfl ?_
    refine zSld d_L_law_1241 (nI_add i 3) (by omega) hL31 (q := 1242) rfl ?_
    refine zI2l d_L_law_1242 (q := 1243) rfl ?_
    refine zBipush d_L_law_1243 (v := 32) bc_32 (q := 1245) rfl ?_
    refine zLshl d_L_law_1245 (q := 1246) rfl ?_
    refine zAloadN d_L_law_1246 rfl rfl (q := 1247) rfl ?_
    refine zIloadN d_L_law_1247 rfl rfl (q := 1248) rfl ?_
    refine zIconst d_L_law_1248 (v := 4) ic_4 (q := 1249) rfl ?_
    refine zIadd d_L_law_1249 (q := 1250) rfl ?_
    refine zSld d_L_law_1250 (nI_add i 4) (by omega) hL31 (q := 1251) rfl ?_
    refine zI2l d_L_law_1251 (q := 1252) rfl ?_
    refine zLdc2 d_L_law_1252 co_L_163 (q := 1255) rfl ?_
    refine zLand d_L_law_1255 (q := 1256) rfl ?_
    refine zLor d_L_law_1256 (q := 1257) rfl ?_
    refine zCallVP d_L_law_1257 ml_L_169 k_X12_put ki_X12_put ks_X12_put (sp_X12_put0 (d := d - 1) (by omega) hr) rfl rfl sh_64 (by decide) rfl (by decide) (Nat.le_of_ble_eq_true rfl) (by decide) (by omega) zns0 (q := 1260) rfl ?_
    refine zIcmp_eq d_L_law_1260 (tgt := 1418) (q := 1263) (by decide) rfl (fun h1260 => ?_) (fun h => absurd rfl h)
    refine zSub [0, 1, 2, 3] rfl ?_
    exact K0 _ _ _ _ _ hv
theorem lw_shift (hd : 100 ≤ d) (hL31 : zgL g < 2 ^ 31) (hi : i + 6 ≤ zgL g) (hv : zIv I L h h2) (K0 : zLwK g l d i Q) : zLA g l d I L (h, h2, o) 1299 [(3, .int (nI i)), (0, .ref 1004), (1, .ref 0), (2, .ref 64)] Q := by
  obtain ⟨ns, nt, nh, nb, dn, al, m, ks, pg, hc, hM⟩ := id hv
  by_cases hr : (0 ≤ zgX g (i + 1) ∧ zgX g (i + 1) < 6) ∧ 0 ≤ zgX g (i + 3) ∧ zgX g (i + 3) < 6
  · obtain ⟨k, hk, ek⟩ := zn1 (x := zgX g (i + 1)) (n := 6) (by decide) hr.1.1 hr.1.2
    obtain ⟨q, hq, ep⟩ := zn1 (x := zgX g (i + 3)) (n := 6) (by decide) hr.2.1 hr.2.2
    obtain ⟨sz, hsz, em⟩ := (hc.2.1.2.2.2 k hk).2
    obtain ⟨sp, hsp, ep2⟩ := (hc.2.1.2.2.2 q hq).2
    by_cases k1 : I (42 + 2 * k) 1 = -1 ∨ I (42 + 2 * q) 1 = -1
    ·
      refine zAloadN d_L_law_1299 rfl rfl (q := 1300) rfl ?_
      refine zAloadN d_L_law_1300 rfl rfl (q := 1301) rfl ?_
      refine zIloadN d_L_law_1301 rfl rfl (q := 1302) rfl ?_
      refine zIconst d_L_law_1302 (v := 1) ic_1 (q := 1303) rfl ?_
      refine zIadd d_L_law_1303 (q := 1304) rfl ?_
      refine zSld d_L_law_1304 (nI_add i 1) (by omega) hL31 (q := 1305) rfl ?_
      rw [ek]
      refine zAloadN d_L_law_1305 rfl rfl (q := 1306) rfl ?_
      refine zIloadN d_L_law_1306 rfl rfl (q := 1307) rfl ?_
      refine zIconst d_L_law_1307 (v := 2) ic_2 (q := 1308) rfl ?_
      refine zIadd d_L_law_1308 (q := 1309) rfl ?_
      refine zSld d_L_law_1309 (nI_add i 2) (by omega) hL31 (q := 1310) rfl ?_
      refine zAloadN d_L_law_1310 rfl rfl (q := 1311) rfl ?_
      refine zIloadN d_L_law_1311 rfl rfl (q := 1312) rfl ?_
      refine zIconst d_L_law_1312 (v := 3) ic_3 (q := 1313) rfl ?_
      refine zIadd d_L_law_1313 (q := 1314) rfl ?_
      refine zSld d_L_law_1314 (nI_add i 3) (by omega) hL31 (q := 1315) rfl ?_
      rw [ep]
      refine zAloadN d_L_law_1315 rfl rfl (q := 1316) rfl ?_
      refine zIloadN d_L_law_1316 rfl rfl (q := 1317) rfl ?_
      refine zIconst d_L_law_1317 (v := 4) ic_4 (q := 1318) rfl ?_
      refine zIadd d_L_law_1318 (q := 1319) rfl ?_
      refine zSld d_L_law_1319 (nI_add i 4) (by omega) hL31 (q := 1320) rfl ?_
      refine zAloadN d_L_law_1320 rfl rfl (q := 1321) rfl ?_
      refine zIloadN d_L_law_1321 rfl rfl (q := 1322) rfl ?_
      refine zIconst d_L_law_1322 (v := 5) ic_5 (q := 1323) rfl ?_
      refine zIadd d_L_law_1323 (q := 1324) rfl ?_
      refine zSld d_L_law_1324 (nI_add i 5) (by omega) hL31 (q := 1325) rfl ?_
      refine zCallVX d_L_law_1325 ml_L_174 k_X11_shift ki_X11_shift ks_X11_shift (sp_X11_shift (d := d - 1) (by omega) hk hq em hsz ep2 hsp) rfl rfl sh_0 (by decide) rfl (by decide) (Nat.le_of_ble_eq_true rfl) (by decide) (by omega) zns0 (q := 1328) rfl (fun x w' hw' => ?_)
      obtain ⟨-, rfl, rfl⟩ := hw'.resolve_right (fun z => by rcases z with z | z | z <;> exact z.1 k1)
      refine zAloadN d_L_law_1328 rfl rfl (q := 1329) rfl ?_
      refine zAloadN d_L_law_1329 rfl rfl (q := 1330) rfl ?_
      refine zIloadN d_L_law_1330 rfl rfl (q := 1331) rfl ?_
      refine zIconst d_L_law_1331 (v := 1) ic_1 (q := 1332) rfl ?_
      refine zIadd d_L_law_1332 (q := 1333) rfl ?_
      refine zSld d_L_law_1333 (nI_add i 1) (by omega) hL31 (q := 1334) rfl ?_
      rw [ek]
      refine zAloadN d_L_law_1334 rfl rfl (q := 1335) rfl ?_
      refine zIloadN d_L_law_1335 rfl rfl (q := 1336) rfl ?_
      refine zIconst d_L_law_1336 (v := 2) ic_2 (q := 1337) rfl ?_
      refine zIadd d_L_law_1337 (q := 1338) rfl ?_
      refine zSld d_L_law_1338 (nI_add i 2) (by omega) hL31 (q := 1339) rfl ?_
      refine zAloadN d_L_law_1339 rfl rfl (q := 1340) rfl ?_
      refine zIloadN d_L_law_1340 rfl rfl (q := 1341) rfl ?_
      refine zIconst d_L_law_1341 (v := 3) ic_3 (q := 1342) rfl ?_
      refine zIadd d_L_law_1342 (q := 1343) rfl ?_
      refine zSld d_L_law_1343 (nI_add i 3) (by omega) hL31 (q := 1344) rfl ?_
      rw [ep]
      refine zAloadN d_L_law_1344 rfl rfl (q := 1345) rfl ?_
      refine zIloadN d_L_law_1345 rfl rfl (q := 1346) rfl ?_
      refine zIconst d_L_law_1346 (v := 4) ic_4 (q := 1347) rfl ?_
      refine zIadd d_L_law_1347 (q := 1348) rfl ?_
      refine zSld d_L_law_1348 (nI_add i 4) (by omega) hL31 (q := 1349) rfl ?_
      refine zAloadN d_L_law_1349 rfl rfl (q := 1350) rfl ?_
      refine zIloadN d_L_law_1350 rfl rfl (q := 1351) rfl ?_
      refine zIconst d_L_law_1351 (v := 5) ic_5 (q := 1352) rfl ?_
      refine zIadd d_L_law_1352 (q := 1353) rfl ?_
      refine zSld d_L_law_1353 (nI_add i 5) (by omega) hL31 (q := 1354) rfl ?_
      refine zCallVX d_L_law_1354 ml_L_178 k_X12_shift ki_X12_shift ks_X12_shift (sp_X12_shift (V := I) (K := L) (pg := pg) (nb := nb) (d := d - 1) (by omega) hM hc.2.1.2.2.2 hc.2.1.2.1 hk hq em hsz ep2 hsp) rfl rfl sh_64 (by decide) rfl (by decide) (Nat.le_of_ble_eq_true rfl) (by decide) (by omega) zns0 (q := 1357) rfl (fun x w' hw' => ?_)
      obtain ⟨-, rfl, rfl⟩ := hw'.resolve_right (fun z => by rcases z with z | z | z <;> exact z.1 k1)
      refine zIcmp_eq d_L_law_1357 (tgt := 1418) (q := 1360) (by decide) rfl (fun h1357 => ?_) (fun h => absurd rfl h)
      refine zSub [0, 1, 2, 3] rfl ?_
      exact K0 _ _ _ _ _ hv
    · by_cases k2 : (0 ≤ I (42 + 2 * k) 1 ∧ I (42 + 2 * k) 1 ≤ 4) ∧ I (42 + 2 * k) 1 = I (42 + 2 * q) 1
      · by_cases k3 : 0 ≤ zgX g (i + 5) ∧ zRunIn (zgX g (i + 2)) (zgX g (i + 5)) (nI sz) ∧ zRunIn (zgX g (i + 4)) (zgX g (i + 5)) (nI sp)
        ·
          refine zAloadN d_L_law_1299 rfl rfl (q := 1300) rfl ?_
          refine zAloadN d_L_law_1300 rfl rfl (q := 1301) rfl ?_
          refine zIloadN d_L_law_1301 rfl rfl (q := 1302) rfl ?_
          refine zIconst d_L_law_1302 (v := 1) ic_1 (q := 1303) rfl ?_
          refine zIadd d_L_law_1303 (q := 1304) rfl ?_
          refine zSld d_L_law_1304 (nI_add i 1) (by omega) hL31 (q := 1305) rfl ?_
          rw [ek]
          refine zAloadN d_L_law_1305 rfl rfl (q := 1306) rfl ?_
          refine zIloadN d_L_law_1306 rfl rfl (q := 1307) rfl ?_
          refine zIconst d_L_law_1307 (v := 2) ic_2 (q := 1308) rfl ?_
          refine zIadd d_L_law_1308 (q := 1309) rfl ?_
          refine zSld d_L_law_1309 (nI_add i 2) (by omega) hL31 (q := 1310) rfl ?_
          refine zAloadN d_L_law_1310 rfl rfl (q := 1311) rfl ?_
          refine zIloadN d_L_law_1311 rfl rfl (q := 1312) rfl ?_
          refine zIconst d_L_law_1312 (v := 3) ic_3 (q := 1313) rfl ?_
          refine zIadd d_L_law_1313 (q := 1314) rfl ?_
          refine zSld d_L_law_1314 (nI_add i 3) (by omega) hL31 (q := 1315) rfl ?_
          rw [ep]
          refine zAloadN d_L_law_1315 rfl rfl (q := 1316) rfl ?_
          refine zIloadN d_L_law_1316 rfl rfl (q := 1317) rfl ?_
          refine zIconst d_L_law_1317 (v := 4) ic_4 (q := 1318) rfl ?_
          refine zIadd d_L_law_1318 (q := 1319) rfl ?_
          refine zSld d_L_law_1319 (nI_add i 4) (by omega) hL31 (q := 1320) rfl ?_
          refine zAloadN d_L_law_1320 rfl rfl (q := 1321) rfl ?_
          refine zIloadN d_L_law_1321 rfl rfl (q := 1322) rfl ?_
          refine zIconst d_L_law_1322 (v := 5) ic_5 (q := 1323) rfl ?_
          refine zIadd d_L_law_1323 (q := 1324) rfl ?_
          refine zSld d_L_law_1324 (nI_add i 5) (by omega) hL31 (q := 1325) rfl ?_
          refine zCallVX d_L_law_1325 ml_L_174 k_X11_shift ki_X11_shift ks_X11_shift (sp_X11_shift (d := d - 1) (by omega) hk hq em hsz ep2 hsp) rfl rfl sh_0 (by decide) rfl (by decide) (Nat.le_of_ble_eq_true rfl) (by decide) (by omega) zns0 (q := 1328) rfl (fun x w' hw' => ?_)
          obtain ⟨-, -, -, rfl, rfl⟩ := ((hw'.resolve_left (fun z => k1 z.1)).resolve_left (fun z => z.2.1 k2)).resolve_left (fun z => z.2.2.1 k3)
          refine zAloadN d_L_law_1328 rfl rfl (q := 1329) rfl ?_
          refine zAloadN d_L_law_1329 rfl rfl (q := 1330) rfl ?_
          refine zIloadN d_L_law_1330 rfl rfl (q := 1331) rfl ?_
          refine zIconst d_L_law_1331 (v := 1) ic_1 (q := 1332) rfl ?_
          refine zIadd d_L_law_1332 (q := 1333) rfl ?_
          refine zSld d_L_law_1333 (nI_add i 1) (by omega) hL31 (q := 1334) rfl ?_
          rw [ek]
          refine zAloadN d_L_law_1334 rfl rfl (q := 1335) rfl ?_
          refine zIloadN d_L_law_1335 rfl rfl (q := 1336) rfl ?_
          refine zIconst d_L_law_1336 (v := 2) ic_2 (q := 1337) rfl ?_
          refine zIadd d_L_law_1337 (q := 1338) rfl ?_
          refine zSld d_L_law_1338 (nI_add i 2) (by omega) hL31 (q := 1339) rfl ?_
          refine zAloadN d_L_law_1339 rfl rfl (q := 1340) rfl ?_
          refine zIloadN d_L_law_1340 rfl rfl (q := 1341) rfl ?_
          refine zIconst d_L_law_1341 (v := 3) ic_3 (q := 1342) rfl ?_
          refine zIadd d_L_law_1342 (q := 1343) rfl ?_
          refine zSld d_L_law_1343 (nI_add i 3) (by omega) hL31 (q := 1344) rfl ?_
          rw [ep]
          refine zAloadN d_L_law_1344 rfl rfl (q := 1345) rfl ?_
          refine zIloadN d_L_law_1345 rfl rfl (q := 1346) rfl ?_
          refine zIconst d_L_law_1346 (v := 4) ic_4 (q := 1347) rfl ?_
          refine zIadd d_L_law_1347 (q := 1348) rfl ?_
          refine zSld d_L_law_1348 (nI_add i 4) (by omega) hL31 (q := 1349) rfl ?_
          refine zAloadN d_L_law_1349 rfl rfl (q := 1350) rfl ?_
          refine zIloadN d_L_law_1350 rfl rfl (q := 1351) rfl ?_
          refine zIconst d_L_law_1351 (v := 5) ic_5 (q := 1352) rfl ?_
          refine zIadd d_L_law_1352 (q := 1353) rfl ?_
          refine zSld d_L_law_1353 (nI_add i 5) (by omega) hL31 (q := 1354) rfl ?_
          refine zCallVX d_L_law_1354 ml_L_178 k_X12_shift ki_X12_shift ks_X12_shift (sp_X12_shift (V := I) (K := L) (pg := pg) (nb := nb) (d := d - 1) (by omega) (zMd_low (fun _ _ ↦ rfl) (zup_ne (by omega)) hM) hc.2.1.2.2.2 hc.2.1.2.1 hk hq em hsz ep2 hsp) rfl rfl sh_64 (by decide) rfl (by decide) (Nat.le_of_ble_eq_true rfl) (by decide) (by omega) zns0 (q := 1357) rfl (fun x w' hw' => ?_)
          obtain ⟨-, -, -, rfl, L9, rfl, hL9, hD⟩ := ((hw'.resolve_left (fun z => k1 z.1)).resolve_left (fun z => z.2.1 k2)).resolve_left (fun z => z.2.2.1 k3)
          refine zIcmp_eq d_L_law_1357 (tgt := 1418) (q := 1360) (by decide) rfl (fun h1357 => ?_) (fun h => absurd rfl h)
          refine zSub [0, 1, 2, 3] rfl ?_
          exact K0 _ _ _ _ _ (zIv_next hc (fun _ _ => rfl) hD (fun a h1 h2 => hL9 a (by omega)))
        ·
          refine zAloadN d_L_law_1299 rfl rfl (q := 1300) rfl ?_
          refine zAloadN d_L_law_1300 rfl rfl (q := 1301) rfl ?_
          refine zIloadN d_L_law_1301 rfl rfl (q := 1302) rfl ?_
          refine zIconst d_L_law_1302 (v := 1) ic_1 (q := 1303) rfl ?_
          refine zIadd d_L_law_1303 (q := 1304) rfl ?_
          refine zSld d_L_law_1304 (nI_add i 1) (by omega) hL31 (q := 1305) rfl ?_
          rw [ek]
          refine zAloadN d_L_law_1305 rfl rfl (q := 1306) rfl ?_
          refine zIloadN d_L_law_1306 rfl rfl (q := 1307) rfl ?_
          refine zIconst d_L_law_1307 (v := 2) ic_2 (q := 1308) rfl ?_
          refine zIadd d_L_law_1308 (q := 1309) rfl ?_
          refine zSld d_L_law_1309 (nI_add i 2) (by omega) hL31 (q := 1310) rfl ?_
          refine zAloadN d_L_law_1310 rfl rfl (q := 1311) rfl ?_
          refine zIloadN d_L_law_1311 rfl rfl (q := 1312) rfl ?_
          refine zIconst d_L_law_1312 (v := 3) ic_3 (q := 1313) rfl ?_
          refine zIadd d_L_law_1313 (q := 1314) rfl ?_
          refine zSld d_L_law_1314 (nI_add i 3) (by omega) hL31 (q := 1315) rfl ?_
          rw [ep]
          refine zAloadN d_L_law_1315 rfl rfl (q := 1316) rfl ?_
          refine zIloadN d_L_law_1316 rfl rfl (q := 1317) rfl ?_
          refine zIconst d_L_law_1317 (v := 4) ic_4 (q := 1318) rfl ?_
          refine zIadd d_L_law_1318 (q := 1319) rfl ?_
          refine zSld d_L_law_1319 (nI_add i 4) (by omega) hL31 (q := 1320) rfl ?_
          refine zAloadN d_L_law_1320 rfl rfl (q := 1321) rfl ?_
          refine zIloadN d_L_law_1321 rfl rfl (q := 1322) rfl ?_
          refine zIconst d_L_law_1322 (v := 5) ic_5 (q := 1323) rfl ?_
          refine zIadd d_L_law_1323 (q := 1324) rfl ?_
          refine zSld d_L_law_1324 (nI_add i 5) (by omega) hL31 (q := 1325) rfl ?_
          refine zCallVX d_L_law_1325 ml_L_174 k_X11_shift ki_X11_shift ks_X11_shift (sp_X11_shift (d := d - 1) (by omega) hk hq em hsz ep2 hsp) rfl rfl sh_0 (by decide) rfl (by decide) (Nat.le_of_ble_eq_true rfl) (by decide) (by omega) zns0 (q := 1328) rfl (fun x w' hw' => ?_)
          obtain ⟨-, -, -, rfl, rfl⟩ := ((hw'.resolve_left (fun z => k1 z.1)).resolve_left (fun z => z.2.1 k2)).resolve_right (fun z => k3 z.2.2.1)
          refine zAloadN d_L_law_1328 rfl rfl (q := 1329) rfl ?_
          refine zAloadN d_L_law_1329 rfl rfl (q := 1330) rfl ?_
          refine zIloadN d_L_law_1330 rfl rfl (q := 1331) rfl ?_
          refine zIconst d_L_law_1331 (v := 1) ic_1 (q := 1332) rfl ?_
          refine zIadd d_L_law_1332 (q := 1333) rfl ?_
          refine zSld d_L_law_1333 (nI_add i 1) (by omega) hL31 (q := 1334) rfl ?_
          rw [ek]
          refine zAloadN d_L_law_1334 rfl rfl (q := 1335) rfl ?_
          refine zIloadN d_L_law_1335 rfl rfl (q := 1336) rfl ?_
          refine zIconst d_L_law_1336 (v := 2) ic_2 (q := 1337) rfl ?_
          refine zIadd d_L_law_1337 (q := 1338) rfl ?_
          refine zSld d_L_law_1338 (nI_add i 2) (by omega) hL31 (q := 1339) rfl ?_
          refine zAloadN d_L_law_1339 rfl rfl (q := 1340) rfl ?_
          refine zIloadN d_L_law_1340 rfl rfl (q := 1341) rfl ?_
          refine zIconst d_L_law_1341 (v := 3) ic_3 (q := 1342) rfl ?_
          refine zIadd d_L_law_1342 (q := 1343) rfl ?_
          refine zSld d_L_law_1343 (nI_add i 3) (by omega) hL31 (q := 1344) rfl ?_
          rw [ep]
          refine zAloadN d_L_law_1344 rfl rfl (q := 1345) rfl ?_
          refine zIloadN d_L_law_1345 rfl rfl (q := 1346) rfl ?_
          refine zIconst d_L_law_1346 (v := 4) ic_4 (q := 1347) rfl ?_
          refine zIadd d_L_law_1347 (q := 1348) rfl ?_
          refine zSld d_L_law_1348 (nI_add i 4) (by omega) hL31 (q := 1349) rfl ?_
          refine zAloadN d_L_law_1349 rfl rfl (q := 1350) rfl ?_
          refine zIloadN d_L_law_1350 rfl rfl (q := 1351) rfl ?_
          refine zIconst d_L_law_1351 (v := 5) ic_5 (q := 1352) rfl ?_
          refine zIadd d_L_law_1352 (q := 1353) rfl ?_
          refine zSld d_L_law_1353 (nI_add i 5) (by omega) hL31 (q := 1354) rfl ?_
          refine zCallVX d_L_law_1354 ml_L_178 k_X12_shift ki_X12_shift ks_X12_shift (sp_X12_shift (V := I) (K := L) (pg := pg) (nb := nb) (d := d - 1) (by omega) hM hc.2.1.2.2.2 hc.2.1.2.1 hk hq em hsz ep2 hsp) rfl rfl sh_64 (by decide) rfl (by decide) (Nat.le_of_ble_eq_true rfl) (by decide) (by omega) zns0 (q := 1357) rfl (fun x w' hw' => ?_)
          obtain ⟨-, -, -, rfl, rfl⟩ := ((hw'.resolve_left (fun z => k1 z.1)).resolve_left (fun z => z.2.1 k2)).resolve_right (fun z => k3 z.2.2.1)
          refine zIcmp_eq d_L_law_1357 (tgt := 1418) (q := 1360) (by decide) rfl (fun h1357 => ?_) (fun h => absurd rfl h)
          refine zSub [0, 1, 2, 3] rfl ?_
          exact K0 _ _ _ _ _ hv
      ·
        refine zAloadN d_L_law_1299 rfl rfl (q := 1300) rfl ?_
        refine zAloadN d_L_law_1300 rfl rfl (q := 1301) rfl ?_
        refine zIloadN d_L_law_1301 rfl rfl (q := 1302) rfl ?_
        refine zIconst d_L_law_1302 (v := 1) ic_1 (q := 1303) rfl ?_
        refine zIadd d_L_law_1303 (q := 1304) rfl ?_
        refine zSld d_L_law_1304 (nI_add i 1) (by omega) hL31 (q := 1305) rfl ?_
        rw [ek]
        refine zAloadN d_L_law_1305 rfl rfl (q := 1306) rfl ?_
        refine zIloadN d_L_law_1306 rfl rfl (q := 1307) rfl ?_
        refine zIconst d_L_law_1307 (v := 2) ic_2 (q := 1308) rfl ?_
        refine zIadd d_L_law_1308 (q := 1309) rfl ?_
        refine zSld d_L_law_1309 (nI_add i 2) (by omega) hL31 (q := 1310) rfl ?_
        refine zAloadN d_L_law_1310 rfl rfl (q := 1311) rfl ?_
        refine zIloadN d_L_law_1311 rfl rfl (q := 1312) rfl ?_
        refine zIconst d_L_law_1312 (v := 3) ic_3 (q := 1313) rfl ?_
        refine zIadd d_L_law_1313 (q := 1314) rfl ?_
        refine zSld d_L_law_1314 (nI_add i 3) (by omega) hL31 (q := 1315) rfl ?_
        rw [ep]
        refine zAloadN d_L_law_1315 rfl rfl (q := 1316) rfl ?_
        refine zIloadN d_L_law_1316 rfl rfl (q := 1317) rfl ?_
        refine zIconst d_L_law_1317 (v := 4) ic_4 (q := 1318) rfl ?_
        refine zIadd d_L_law_1318 (q := 1319) rfl ?_
        refine zSld d_L_law_1319 (nI_add i 4) (by omega) hL31 (q := 1320) rfl ?_
        refine zAloadN d_L_law_1320 rfl rfl (q := 1321) rfl ?_
        refine zIloadN d_L_law_1321 rfl rfl (q := 1322) rfl ?_
        refine zIconst d_L_law_1322 (v := 5) ic_5 (q := 1323) rfl ?_
        refine zIadd d_L_law_1323 (q := 1324) rfl ?_
        refine zSld d_L_law_1324 (nI_add i 5) (by omega) hL31 (q := 1325) rfl ?_
        refine zCallVX d_L_law_1325 ml_L_174 k_X11_shift ki_X11_shift ks_X11_shift (sp_X11_shift (d := d - 1) (by omega) hk hq em hsz ep2 hsp) rfl rfl sh_0 (by decide) rfl (by decide) (Nat.le_of_ble_eq_true rfl) (by decide) (by omega) zns0 (q := 1328) rfl (fun x w' hw' => ?_)
        obtain ⟨-, -, rfl, rfl⟩ := (hw'.resolve_left (fun z => k1 z.1)).resolve_right (fun z => by rcases z with z | z <;> exact k2 z.2.1)
        refine zAloadN d_L_law_1328 rfl rfl (q := 1329) rfl ?_
        refine zAloadN d_L_law_1329 rfl rfl (q := 1330) rfl ?_
        refine zIloadN d_L_law_1330 rfl rfl (q := 1331) rfl ?_
        refine zIconst d_L_law_1331 (v := 1) ic_1 (q := 1332) rfl ?_
        refine zIadd d_L_law_1332 (q := 1333) rfl ?_
        refine zSld d_L_law_1333 (nI_add i 1) (by omega) hL31 (q := 1334) rfl ?_
        rw [ek]
        refine zAloadN d_L_law_1334 rfl rfl (q := 1335) rfl ?_
        refine zIloadN d_L_law_1335 rfl rfl (q := 1336) rfl ?_
        refine zIconst d_L_law_1336 (v := 2) ic_2 (q := 1337) rfl ?_
        refine zIadd d_L_law_1337 (q := 1338) rfl ?_
        refine zSld d_L_law_1338 (nI_add i 2) (by omega) hL31 (q := 1339) rfl ?_
        refine zAloadN d_L_law_1339 rfl rfl (q := 1340) rfl ?_
        refine zIloadN d_L_law_1340 rfl rfl (q := 1341) rfl ?_
        refine zIconst d_L_law_1341 (v := 3) ic_3 (q := 1342) rfl ?_
        refine zIadd d_L_law_1342 (q := 1343) rfl ?_
        refine zSld d_L_law_1343 (nI_add i 3) (by omega) hL31 (q := 1344) rfl ?_
        rw [ep]
        refine zAloadN d_L_law_1344 rfl rfl (q := 1345) rfl ?_
        refine zIloadN d_L_law_1345 rfl rfl (q := 1346) rfl ?_
        refine zIconst d_L_law_1346 (v := 4) ic_4 (q := 1347) rfl ?_
        refine zIadd d_L_law_1347 (q := 1348) rfl ?_
        refine zSld d_L_law_1348 (nI_add i 4) (by omega) hL31 (q := 1349) rfl ?_
        refine zAloadN d_L_law_1349 rfl rfl (q := 1350) rfl ?_
        refine zIloadN d_L_law_1350 rfl rfl (q := 1351) rfl ?_
        refine zIconst d_L_law_1351 (v := 5) ic_5 (q := 1352) rfl ?_
        refine zIadd d_L_law_1352 (q := 1353) rfl ?_
        refine zSld d_L_law_1353 (nI_add i 5) (by omega) hL31 (q := 1354) rfl ?_
        refine zCallVX d_L_law_1354 ml_L_178 k_X12_shift ki_X12_shift ks_X12_shift (sp_X12_shift (V := I) (K := L) (pg := pg) (nb := nb) (d := d - 1) (by omega) hM hc.2.1.2.2.2 hc.2.1.2.1 hk hq em hsz ep2 hsp) rfl rfl sh_64 (by decide) rfl (by decide) (Nat.le_of_ble_eq_true rfl) (by decide) (by omega) zns0 (q := 1357) rfl (fun x w' hw' => ?_)
        obtain ⟨-, -, rfl, rfl⟩ := (hw'.resolve_left (fun z => k1 z.1)).resolve_right (fun z => by rcases z with z | z <;> exact k2 z.2.1)
        refine zIcmp_eq d_L_law_1357 (tgt := 1418) (q := 1360) (by decide) rfl (fun h1357 => ?_) (fun h => absurd rfl h)
        refine zSub [0, 1, 2, 3] rfl ?_
        exact K0 _ _ _ _ _ hv
  · have hr2 : ¬ (0 ≤ zgX g (i + 1) ∧ zgX g (i + 1) < 6) ∨ ¬ (0 ≤ zgX g (i + 3) ∧ zgX g (i + 3) < 6) := by
      by_cases z : 0 ≤ zgX g (i + 1) ∧ zgX g (i + 1) < 6
      · exact Or.inr (fun y => hr ⟨z, y⟩)
      · exact Or.inl z
    refine zAloadN d_L_law_1299 rfl rfl (q := 1300) rfl ?_
    refine zAloadN d_L_law_1300 rfl rfl (q := 1301) rfl ?_
    refine zIloadN d_L_law_1301 rfl rfl (q := 1302) rfl ?_
    refine zIconst d_L_law_1302 (v := 1) ic_1 (q := 1303) rfl ?_
    refine zIadd d_L_law_1303 (q := 1304) rfl ?_
    refine zSld d_L_law_1304 (nI_add i 1) (by omega) hL31 (q := 1305) rfl ?_
    refine zAloadN d_L_law_1305 rfl rfl (q := 1306) rfl ?_
    refine zIloadN d_L_law_1306 rfl rfl (q := 1307) rfl ?_
    refine zIconst d_L_law_1307 (v := 2) ic_2 (q := 1308) rfl ?_
    refine zIadd d_L_law_1308 (q := 1309) rfl ?_
    refine zSld d_L_law_1309 (nI_add i 2) (by omega) hL31 (q := 1310) rfl ?_
    refine zAloadN d_L_law_1310 rfl rfl (q := 1311) rfl ?_
    refine zIloadN d_L_law_1311 rfl rfl (q := 1312) rfl ?_
    refine zIconst d_L_law_1312 (v := 3) ic_3 (q := 1313) rfl ?_
    refine zIadd d_L_law_1313 (q := 1314) rfl ?_
    refine zSld d_L_law_1314 (nI_add i 3) (by omega) hL31 (q := 1315) rfl ?_
    refine zAloadN d_L_law_1315 rfl rfl (q := 1316) rfl ?_
    refine zIloadN d_L_law_1316 rfl rfl (q := 1317) rfl ?_
    refine zIconst d_L_law_1317 (v := 4) ic_4 (q := 1318) rfl ?_
    refine zIadd d_L_law_1318 (q := 1319) rfl ?_
    refine zSld d_L_law_1319 (nI_add i 4) (by omega) hL31 (q := 1320) rfl ?_
    refine zAloadN d_L_law_1320 rfl rfl (q := 1321) rfl ?_
    refine zIloadN d_L_law_1321 rfl rfl (q := 1322) rfl ?_
    refine zIconst d_L_law_1322 (v := 5) ic_5 (q := 1323) rfl ?_
    refine zIadd d_L_law_1323 (q := 1324) rfl ?_
    refine zSld d_L_law_1324 (nI_add i 5) (by omega) hL31 (q := 1325) rfl ?_
    refine zCallVP d_L_law_1325 ml_L_174 k_X11_shift ki_X11_shift ks_X11_shift (sp_X11_shift0 (d := d - 1) (by omega) hr2) rfl rfl sh_0 (by decide) rfl (by decide) (Nat.le_of_ble_eq_true rfl) (by decide) (by omega) zns0 (q := 1328) rfl ?_
    refine zAloadN d_L_law_1328 rfl rfl (q := 1329) rfl ?_
    refine zAloadN d_L_law_1329 rfl rfl (q := 1330) rfl ?_
    refine zIloadN d_L_law_1330 rfl rfl (q := 1331) rfl ?_
    refine zIconst d_L_law_1331 (v := 1) ic_1 (q := 1332) rfl ?_
    refine zIadd d_L_law_1332 (q := 1333) rfl ?_
    refine zSld d_L_law_1333 (nI_add i 1) (by omega) hL31 (q := 1334) rfl ?_
    refine zAloadN d_L_law_1334 rfl rfl (q := 1335) rfl ?_
    refine zIloadN d_L_law_1335 rfl rfl (q := 1336) rfl ?_
    refine zIconst d_L_law_1336 (v := 2) ic_2 (q := 1337) rfl ?_
    refine zIadd d_L_law_1337 (q := 1338) rfl ?_
    refine zSld d_L_law_1338 (nI_add i 2) (by omega) hL31 (q := 1339) rfl ?_
    refine zAloadN d_L_law_1339 rfl rfl (q := 1340) rfl ?_
    refine zIloadN d_L_law_1340 rfl rfl (q := 1341) rfl ?_
    refine zIconst d_L_law_1341 (v := 3) ic_3 (q := 1342) rfl ?_
    refine zIadd d_L_law_1342 (q := 1343) rfl ?_
    refine zSld d_L_law_1343 (nI_add i 3) (by omega) hL31 (q := 1344) rfl ?_
    refine zAloadN d_L_law_1344 rfl rfl (q := 1345) rfl ?_
    refine zIloadN d_L_law_1345 rfl rfl (q := 1346) rfl ?_
    refine zIconst d_L_law_1346 (v := 4) ic_4 (q := 1347) rfl ?_
    refine zIadd d_L_law_1347 (q := 1348) rfl ?_
    refine zSld d_L_law_1348 (nI_add i 4) (by omega) hL31 (q := 1349) rfl ?_
    refine zAloadN d_L_law_1349 rfl rfl (q := 1350) rfl ?_
    refine zIloadN d_L_law_1350 rfl rfl (q := 1351) rfl ?_
    refine zIconst d_L_law_1351 (v := 5) ic_5 (q := 1352) rfl ?_
    refine zIadd d_L_law_1352 (q := 1353) rfl ?_
    refine zSld d_L_law_1353 (nI_add i 5) (by omega) hL31 (q := 1354) rfl ?_
    refine zCallVP d_L_law_1354 ml_L_178 k_X12_shift ki_X12_shift ks_X12_shift (sp_X12_shift0 (d := d - 1) (by omega) hr2) rfl rfl sh_64 (by decide) rfl (by decide) (Nat.le_of_ble_eq_true rfl) (by decide) (by omega) zns0 (q := 1357) rfl ?_
    refine zIcmp_eq d_L_law_1357 (tgt := 1418) (q := 1360) (by decide) rfl (fun h1357 => ?_) (fun h => absurd rfl h)
    refine zSub [0, 1, 2, 3] rfl ?_
    exact K0 _ _ _ _ _ hv
end S91

