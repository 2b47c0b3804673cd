/-! THE LAW: BACK, PASS -/
theorem zBitF_at (b : Int32) (f : Nat → Int32) (n j : Nat) : zBitF b f n 0 j = if j < n then (b >>> (nI j &&& 31)) &&& 1 else f j := by
  have key : ∀ k, k ≤ n → ∀ f : Nat → Int32, zBitF b f n k j = if k ≤ j ∧ j < n then (b >>> (nI j &&& 31)) &&& 1 else f j := by
    refine zloop n (fun k hk ih f => ?_)
    unfold zBitF at ih ⊢
    rcases Nat.eq_or_lt_of_le hk with e | hlt
    · rw [zfor_end (by omega), if_neg (by omega)]
    · rw [zfor_step hlt, ih hlt]
      by_cases e : j = k
      · subst e
        rw [if_neg (by omega), if_pos ⟨Nat.le_refl _, hlt⟩, zup_eq]
      · by_cases h2 : k + 1 ≤ j ∧ j < n
        · rw [if_pos h2, if_pos (by omega)]
        · rw [if_neg h2, if_neg (by omega), zup_ne e]
  rw [key 0 (Nat.zero_le _) f]
  simp only [Nat.zero_le, true_and]
theorem zDownUp_at (due : Int32) (f : Nat → Int32) (n j : Nat) : zDownUp due f n 0 j = f j ∨ zDownUp due f n 0 j = 0 := by
  have key : ∀ k, k ≤ n → ∀ f' : Nat → Int32, f' j = f j ∨ f' j = 0 → zDownUp due f' n k j = f j ∨ zDownUp due f' n k j = 0 := by
    refine zloop n (fun k hk ih f' h => ?_)
    unfold zDownUp at ih ⊢
    rcases Nat.eq_or_lt_of_le hk with e | hlt
    · rw [zfor_end (by omega)]; exact h
    · rw [zfor_step hlt]
      refine ih hlt _ ?_
      split
      · exact h
      · by_cases e : j = k
        · rw [e, zup_eq]; exact Or.inr rfl
        · rw [zup_ne e]; exact h
  exact key 0 (Nat.zero_le _) f (Or.inl rfl)
theorem zand1 (x : Int32) : x &&& 1 = 0 ∨ x &&& 1 = 1 := by
  have e : x = nI x.toBitVec.toNat := by
    apply Int32.toBitVec_inj.mp
    show x.toBitVec = BitVec.ofNat 32 x.toBitVec.toNat
    simp
  have e2 : x &&& 1 = nI (x.toBitVec.toNat % 2) := by
    have e3 : nI x.toBitVec.toNat &&& nI 1 = nI (x.toBitVec.toNat % 2) := by rw [zand, Nat.and_one_is_mod]
    rw [← e] at e3
    exact e3
  rw [e2]
  rcases Nat.mod_two_eq_zero_or_one x.toBitVec.toNat with q | q <;> rw [q]
  · exact Or.inl rfl
  · exact Or.inr rfl
theorem zBd_put {V : Nat → Nat → Int32} {ns nt nh j : Nat} {f : Nat → Int32} (hB : zBd V ns nt nh) (hj : j < 12) (hv : ∀ k, k < zHold ns nt nh (nI j) → zMay (nI j) (f k)) (h0 : (j = 4 ∨ j = 5) → ∀ k, ns ≤ k → f k = 0) : zBd (zup V (3 + j) f) ns nt nh := by
  refine ⟨fun j2 k2 hj2 hk2 => ?_, fun k hk => ?_⟩
  · by_cases e : j2 = j
    · subst e
      rw [zup_eq]; exact hv k2 hk2
    · rw [zup_ne (by omega)]; exact hB.1 j2 k2 hj2 hk2
  · have b := hB.2 k hk
    constructor
    · by_cases e : j = 4
      · subst e
        rw [show 3 + 4 = 7 from rfl, zup_eq]; exact h0 (Or.inl rfl) k hk
      · rw [zup_ne (by omega)]; exact b.1
    · by_cases e : j = 5
      · subst e
        rw [show 3 + 5 = 8 from rfl, zup_eq]; exact h0 (Or.inr rfl) k hk
      · rw [zup_ne (by omega)]; exact b.2
theorem zBackI_ne {V : Nat → Nat → Int32} {ks a : Nat} (ha : a < 3 ∨ 15 < a) : zBackI V ks a = V a := by
  unfold zBackI; rw [zup_ne (by omega), zup_ne (by omega), zup_ne (by omega), zup_ne (by omega), zup_ne (by omega)]
theorem zIc_back {V : Nat → Nat → Int32} {h h2 ns nt nh nb dn al m ks : Nat} {pg : Option (List zLine)} (k : zIc V h h2 ns nt nh nb dn al m ks pg) (h6 : ¬ V 36 6 = 0) : zIc (zBackI V ks) h h2 ns nt nh nb dn al m ks pg := by
  obtain ⟨q9, q11⟩ := k.2.2.2.2.1.2.2.resolve_left h6
  have hle := k.2.2.2.2.1.2.1
  have hB := k.1.2
  refine zIc_b15 k (fun a ha => zBackI_ne ha) ?_
  unfold zBackI
  refine zBd_15 ?_
  have b1 : zBd (zup V 7 (zBitF (V 36 1) (V 7) ks 0)) ns nt nh := zBd_put (j := 4) hB (by decide) (fun i hi => by
    rw [zBitF_at]
    split
    · rcases zand1 (V 36 1 >>> (nI i &&& 31)) with e | e <;> rw [e] <;> decide
    · exact hB.1 4 i (by decide) hi) (fun _ i hi => by rw [zBitF_at, if_neg (by omega)]; exact (hB.2 i hi).1)
  have b2 : zBd (zup (zup V 7 (zBitF (V 36 1) (V 7) ks 0)) 8 (zBitF (V 36 2) (V 8) ks 0)) ns nt nh := zBd_put (j := 5) b1 (by decide) (fun i hi => by
    rw [zBitF_at]
    split
    · rcases zand1 (V 36 2 >>> (nI i &&& 31)) with e | e <;> rw [e] <;> decide
    · exact hB.1 5 i (by decide) hi) (fun _ i hi => by rw [zBitF_at, if_neg (by omega)]; exact (hB.2 i hi).2)
  have b3 : zBd (zup (zup (zup V 7 (zBitF (V 36 1) (V 7) ks 0)) 8 (zBitF (V 36 2) (V 8) ks 0)) 12 (zup (V 12) 0 (V 36 4))) ns nt nh := zBd_put (j := 9) b2 (by decide) (fun i hi => by
    by_cases e : i = 0
    · rw [e, zup_eq]; exact q9
    · rw [zup_ne e]; exact hB.1 9 i (by decide) hi) (fun e => by omega)
  exact zBd_put (j := 11) b3 (by decide) (fun i hi => by
    by_cases e : i = 0
    · rw [e, zup_eq]; exact q11
    · rw [zup_ne e]; exact hB.1 11 i (by decide) hi) (fun e => by omega)
theorem zMay9_add {a m : Int32} (ha : zMay (nI 9) a) (hm : 0 ≤ m ∧ m ≤ 999) : zMay (nI 9) (if a + m < 999 then a + m else 999) := by
  have h1 : 0 ≤ a := ha.2.1
  have h2 : a ≤ 999 := ha.2.2
  obtain ⟨p, hp, rfl⟩ := zn1 (x := a) (n := 1000) (by decide) h1 (by show a < 1000; grind)
  obtain ⟨q, hq, rfl⟩ := zn1 (x := m) (n := 1000) (by decide) hm.1 (by have := hm.2; show m < 1000; grind)
  rw [nI_add p q]
  refine ⟨by decide, ?_, ?_⟩
  · show (0 : Int32) ≤ _
    split
    · exact nI_pos' (by omega)
    · decide
  · show _ ≤ (999 : Int32)
    split
    · rename_i e
      exact Int32.le_of_lt e
    · decide
theorem zIc_go {V : Nat → Nat → Int32} {h h2 ns nt nh nb dn al m ks : Nat} {pg : Option (List zLine)} {x : Int32} (k : zIc V h h2 ns nt nh nb dn al m ks pg) (hx : 0 ≤ x ∧ x ≤ 999) : zIc (zGoOn V x) h h2 ns nt nh nb dn al m ks pg := by
  have hB := k.1.2
  refine zIc_b15 k (fun a ha => by unfold zGoOn; rw [zup_ne (by omega), zup_ne (by omega)]) ?_
  unfold zGoOn
  exact zBd_put (j := 9) (zBd_15 hB) (by decide) (fun i hi => by
    by_cases e : i = 0
    · rw [e, zup_eq]; exact zMay9_add (hB.1 9 0 (by decide) (show 0 < 1 by decide)) hx
    · rw [zup_ne e]; exact hB.1 9 i (by decide) hi) (fun e => by omega)
theorem zIc_due {V : Nat → Nat → Int32} {h h2 ns nt nh nb dn al m ks : Nat} {pg : Option (List zLine)} (k : zIc V h h2 ns nt nh nb dn al m ks pg) : zIc (zDueI V ns) h h2 ns nt nh nb dn al m ks pg := by
  have hB := k.1.2
  refine zIc_b15 k (fun a ha => by unfold zDueI; rw [zup_ne (by omega), zup_ne (by omega)]) ?_
  unfold zDueI
  refine zBd_15 (zBd_put (j := 4) hB (by decide) (fun i hi => ?_) (fun _ i hi => ?_))
  · rcases zDownUp_at (zDue V ns) (V 7) ns i with e | e
    · rw [e]; exact hB.1 4 i (by decide) hi
    · rw [e]; decide
  · rcases zDownUp_at (zDue V ns) (V 7) ns i with e | e
    · rw [e]; exact (hB.2 i hi).1
    · exact e
section S87
variable {g : zG} {l : Launch} {d i h h2 : Nat} {I : Nat → Nat → Int32} {L : Nat → Nat → Int64} {o : Option Nat} {Q : Option Value → zW → Prop}
theorem lw_back (hd : 100 ≤ d) (hL31 : zgL g < 2 ^ 31) (hi : i + 6 ≤ zgL g) (hv : zIv I L h h2) (K0 : zLwK g l d i Q) : zLA g l d I L (h, h2, o) 988 [(3, .int (nI i)), (0, .ref 1004), (1, .ref 0), (2, .ref 64)] Q := by
  obtain ⟨ns, nt, nh, nb, dn, al, m, ks, pg, hc, hM⟩ := id hv
  by_cases k1 : I 36 6 = 0
  ·
    refine zAloadN d_L_law_988 rfl rfl (q := 989) rfl ?_
    refine zCallVX d_L_law_989 ml_L_131 k_X11_back ki_X11_back ks_X11_back (sp_X11_back (d := d - 1) (by omega) hc.1.1 hc.2.2.2.2.1.1 hc.2.2.2.2.1.2.1) rfl rfl sh_0 (by decide) rfl (by decide) (Nat.le_of_ble_eq_true rfl) (by decide) (by omega) zns0 (q := 992) rfl (fun x w' hw' => ?_)
    obtain ⟨-, rfl, rfl⟩ := hw'.resolve_right (fun z => z.1 k1)
    refine zAloadN d_L_law_992 rfl rfl (q := 993) rfl ?_
    refine zCallVX d_L_law_993 ml_L_134 k_X12_back ki_X12_back ks_X12_back (sp_X12_back (V := I) (K := L) (pg := pg) (d := d - 1) (by omega) hM hc.1.1 hc.1.2 hc.2.2.2.2.1.1 hc.2.2.2.2.1.2.1) rfl rfl sh_64 (by decide) rfl (by decide) (Nat.le_of_ble_eq_true rfl) (by decide) (by omega) zns0 (q := 996) rfl (fun x w' hw' => ?_)
    obtain ⟨-, rfl, rfl⟩ := hw'.resolve_right (fun z => z.1 k1)
    refine zIcmp_eq d_L_law_996 (tgt := 1418) (q := 999) (by decide) rfl (fun h996 => ?_) (fun h => absurd rfl h)
    refine zSub [0, 1, 2, 3] rfl ?_
    exact K0 _ _ _ _ _ hv
  ·
    refine zAloadN d_L_law_988 rfl rfl (q := 989) rfl ?_
    refine zCallVX d_L_law_989 ml_L_131 k_X11_back ki_X11_back ks_X11_back (sp_X11_back (d := d - 1) (by omega) hc.1.1 hc.2.2.2.2.1.1 hc.2.2.2.2.1.2.1) rfl rfl sh_0 (by decide) rfl (by decide) (Nat.le_of_ble_eq_true rfl) (by decide) (by omega) zns0 (q := 992) rfl (fun x w' hw' => ?_)
    obtain ⟨-, rfl, rfl⟩ := hw'.resolve_left (fun z => k1 z.1)
    have c9 := zIc_back hc k1
    refine zAloadN d_L_law_992 rfl rfl (q := 993) rfl ?_
    refine zCallVX d_L_law_993 ml_L_134 k_X12_back ki_X12_back ks_X12_back (sp_X12_back (V := I) (K := L) (pg := pg) (d := d - 1) (by omega) (zMd_low (fun a ha ↦ zBackI_ne (by omega)) rfl hM) hc.1.1 hc.1.2 hc.2.2.2.2.1.1 hc.2.2.2.2.1.2.1) rfl rfl sh_64 (by decide) rfl (by decide) (Nat.le_of_ble_eq_true rfl) (by decide) (by omega) zns0 (q := 996) rfl (fun x w' hw' => ?_)
    obtain ⟨-, rfl, J, rfl, hf, hD⟩ := hw'.resolve_left (fun z => k1 z.1)
    refine zIcmp_eq d_L_law_996 (tgt := 1418) (q := 999) (by decide) rfl (fun h996 => ?_) (fun h => absurd rfl h)
    refine zSub [0, 1, 2, 3] rfl ?_
    exact K0 _ _ _ _ _ (zIv_next c9 (fun a ha => hf a (by have := c9.2.2.2.2.2.1; omega)) hD (fun _ _ _ => rfl))
theorem lw_pass (hd : 100 ≤ d) (hL31 : zgL g < 2 ^ 31) (hi : i + 6 ≤ zgL g) (hv : zIv I L h h2) (K0 : zLwK g l d i Q) : zLA g l d I L (h, h2, o) 906 [(3, .int (nI i)), (0, .ref 1004), (1, .ref 0), (2, .ref 64)] Q := by
  obtain ⟨ns, nt, nh, nb, dn, al, m, ks, pg, hc, hM⟩ := id hv
  by_cases k1 : 1 ≤ zgX g (i + 1) ∧ zgX g (i + 1) ≤ 999
  ·
    refine zAloadN d_L_law_906 rfl rfl (q := 907) rfl ?_
    refine zAloadN d_L_law_907 rfl rfl (q := 908) rfl ?_
    refine zIloadN d_L_law_908 rfl rfl (q := 909) rfl ?_
    refine zIconst d_L_law_909 (v := 1) ic_1 (q := 910) rfl ?_
    refine zIadd d_L_law_910 (q := 911) rfl ?_
    refine zSld d_L_law_911 (nI_add i 1) (by omega) hL31 (q := 912) rfl ?_
    refine zCallVX d_L_law_912 ml_L_115 k_X11_pass ki_X11_pass ks_X11_pass (sp_X11_pass (d := d - 1) (by omega) hc.1.1) rfl rfl sh_0 (by decide) rfl (by decide) (Nat.le_of_ble_eq_true rfl) (by decide) (by omega) zns0 (q := 915) rfl (fun x w' hw' => ?_)
    obtain ⟨-, rfl, rfl⟩ := hw'.resolve_left (fun z => z.1 k1)
    have c9 := zIc_due (zIc_go hc (x := zgX g (i + 1)) ⟨by have := k1.1; grind, k1.2⟩)
    refine zAloadN d_L_law_915 rfl rfl (q := 916) rfl ?_
    refine zAloadN d_L_law_916 rfl rfl (q := 917) rfl ?_
    refine zIloadN d_L_law_917 rfl rfl (q := 918) rfl ?_
    refine zIconst d_L_law_918 (v := 1) ic_1 (q := 919) rfl ?_
    refine zIadd d_L_law_919 (q := 920) rfl ?_
    refine zSld d_L_law_920 (nI_add i 1) (by omega) hL31 (q := 921) rfl ?_
    refine zCallVX d_L_law_921 ml_L_118 k_X12_pass ki_X12_pass ks_X12_pass (sp_X12_pass (V := I) (K := L) (pg := pg) (d := d - 1) (by omega) (zMd_low (fun a ha ↦ by unfold zDueI zGoOn; rw [zup_ne (by omega), zup_ne (by omega), zup_ne (by omega), zup_ne (by omega)]) rfl hM) hc.1.1 hc.1.2) rfl rfl sh_64 (by decide) rfl (by decide) (Nat.le_of_ble_eq_true rfl) (by decide) (by omega) zns0 (q := 924) rfl (fun x w' hw' => ?_)
    obtain ⟨-, rfl, J, rfl, hf, hD⟩ := hw'.resolve_left (fun z => z.1 k1)
    refine zIcmp_eq d_L_law_924 (tgt := 1418) (q := 927) (by decide) rfl (fun h924 => ?_) (fun h => absurd rfl h)
    refine zSub [0, 1, 2, 3] rfl ?_
    exact K0 _ _ _ _ _ (zIv_next c9 (fun a ha => hf a (by have := c9.2.2.2.2.2.1; omega)) hD (fun _ _ _ => rfl))
  ·
    refine zAloadN d_L_law_906 rfl rfl (q := 907) rfl ?_
    refine zAloadN d_L_law_907 rfl rfl (q := 908) rfl ?_
    refine zIloadN d_L_law_908 rfl rfl (q := 909) rfl ?_
    refine zIconst d_L_law_909 (v := 1) ic_1 (q := 910) rfl ?_
    refine zIadd d_L_law_910 (q := 911) rfl ?_
    refine zSld d_L_law_911 (nI_add i 1) (by omega) hL31 (q := 912) rfl ?_
    refine zCallVX d_L_law_912 ml_L_115 k_X11_pass ki_X11_pass ks_X11_pass (sp_X11_pass (d := d - 1) (by omega) hc.1.1) rfl rfl sh_0 (by decide) rfl (by decide) (Nat.le_of_ble_eq_true rfl) (by decide) (by omega) zns0 (q := 915) rfl (fun x w' hw' => ?_)
    obtain ⟨-, rfl, rfl⟩ := hw'.resolve_right (fun z => k1 z.1)
    refine zAloadN d_L_law_915 rfl rfl (q := 916) rfl ?_
    refine zAloadN d_L_law_916 rfl rfl (q := 917) rfl ?_
    refine zIloadN d_L_law_917 rfl rfl (q := 918) rfl ?_
    refine zIconst d_L_law_918 (v := 1) ic_1 (q := 919) rfl ?_
    refine zIadd d_L_law_919 (q := 920) rfl ?_
    refine zSld d_L_law_920 (nI_add i 1) (by omega) hL31 (q := 921) rfl ?_
    refine zCallVX d_L_law_921 ml_L_118 k_X12_pass ki_X12_pass ks_X12_pass (sp_X12_pass (V := I) (K := L) (pg := pg) (d := d - 1) (by omega) hM hc.1.1 hc.1.2) rfl rfl sh_64 (by decide) rfl (by decide) (Nat.le_of_ble_eq_true rfl) (by decide) (by omega) zns0 (q := 924) rfl (fun x w' hw' => ?_)
    obtain ⟨-, rfl, rfl⟩ := hw'.resolve_right (fun z => k1 z.1)
    refine zIcmp_eq d_L_law_924 (tgt := 1418) (q := 927) (by decide) rfl (fun h924 => ?_) (fun h => absurd rfl h)
    refine zSub [0, 1, 2, 3] rfl ?_
    exact K0 _ _ _ _ _ hv
end S87

