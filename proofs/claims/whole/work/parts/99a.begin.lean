/-! THE LAW FROM ITS ENTRY -/
theorem zRep_ext {g : zG} {I : Nat → Nat → Int32} {L : Nat → Nat → Int64} {R R2 : Nat → Nat → Option Nat} {n : Nat} {H : Heap} (h : ∀ a, a < n → ∀ k, k < (zsh a).2 → R a k = R2 a k) (hz : ∀ a, a < n → (zsh a).1 < 13 → zcN (zsh a).1 ≤ (zsh a).2) (hR : zRep g (I, L, R, n) H) : zRep g (I, L, R2, n) H := by
  refine ⟨hR.1, fun a ha => ?_, hR.2.2⟩
  have q := hR.2.1 a ha
  show zcell g (I a) (L a) (R2 a) a H
  have q : zcell g (I a) (L a) (R a) a H := q
  unfold zcell at q ⊢
  split
  next hk =>
    rw [if_pos hk] at q
    exact q.to (fun j hj => by unfold zfv; rw [h a ha j (Nat.lt_of_lt_of_le hj (hz a ha hk))])
  next hk =>
    rw [if_neg hk] at q
    rw [q]
    exact congrArg some (arrV_ext (fun j hj => by unfold zel; rw [h a ha j hj]))
def zI0 : Nat → Nat → Int32 := zIl [(96, 5, -1), (96, 4, -1), (96, 3, -1), (96, 2, -1), (96, 1, -1), (96, 0, -1), (74, 2, 1), (74, 1, 480), (74, 0, 0), (52, 1, -1), (50, 1, -1), (48, 1, -1), (46, 1, -1), (44, 1, -1), (42, 1, -1), (14, 0, 1), (13, 0, 480)]
theorem zIc0 : zIc zI0 54 59 0 0 0 0 0 0 0 0 none := by
  refine ⟨⟨⟨⟨rfl, rfl, rfl⟩, by decide, by decide, by decide⟩, ⟨fun j k hj hk => ?_, fun k _ => ⟨rfl, rfl⟩⟩⟩, ⟨rfl, by decide, fun i hi => absurd hi (Nat.not_lt_zero _), fun q hq => ⟨Or.inl ?_, 0, by decide, ?_⟩⟩, ⟨rfl, rfl, by decide, by decide, fun i hi => absurd hi (Nat.not_lt_zero _)⟩,
    ⟨rfl, by decide, fun k => ⟨by show (0 : Int32) ≤ 0; decide, by show (0 : Int32) ≤ 255; decide⟩⟩, ⟨rfl, by decide, Or.inl rfl⟩, Or.inl ⟨rfl, rfl⟩, rfl⟩
  · match j, hj with
    | 0, _ => exact absurd hk (Nat.not_lt_zero k)
    | 1, _ => exact absurd hk (Nat.not_lt_zero k)
    | 2, _ => exact absurd hk (Nat.not_lt_zero k)
    | 3, _ => exact absurd hk (Nat.not_lt_zero k)
    | 4, _ => exact absurd hk (Nat.not_lt_zero k)
    | 5, _ => exact absurd hk (Nat.not_lt_zero k)
    | 6, _ => exact absurd hk (Nat.not_lt_zero k)
    | 7, _ => exact absurd hk (Nat.not_lt_zero k)
    | 8, _ => exact absurd hk (Nat.not_lt_zero k)
    | 9, _ =>
      have e : k = 0 := Nat.lt_one_iff.mp hk
      subst e; decide
    | 10, _ =>
      have e : k = 0 := Nat.lt_one_iff.mp hk
      subst e; decide
    | 11, _ =>
      have e : k = 0 := Nat.lt_one_iff.mp hk
      subst e; decide
  · match q, hq with
    | 0, _ => rfl
    | 1, _ => rfl
    | 2, _ => rfl
    | 3, _ => rfl
    | 4, _ => rfl
    | 5, _ => rfl
  · match q, hq with
    | 0, _ => rfl
    | 1, _ => rfl
    | 2, _ => rfl
    | 3, _ => rfl
    | 4, _ => rfl
    | 5, _ => rfl
theorem zMd0 : zMd zI0 zL0 zI0 zL0 none := by
  refine ⟨⟨⟨rfl, rfl, rfl⟩, ⟨funext fun _ => rfl, funext fun _ => rfl, funext fun _ => rfl, funext fun _ => rfl, funext fun _ => rfl, funext fun _ => rfl, funext fun _ => rfl, funext fun _ => rfl, funext fun _ => rfl⟩, ⟨rfl, rfl, rfl⟩, funext fun _ => rfl⟩, ⟨rfl, funext fun _ => rfl⟩, ⟨rfl, rfl, funext fun _ => rfl, funext fun _ => rfl, funext fun _ => rfl, funext fun _ => rfl⟩, ⟨⟨rfl, rfl, rfl, rfl, rfl, rfl⟩, funext fun _ => rfl⟩, ⟨⟨rfl, rfl⟩, funext fun _ => rfl, funext fun _ => rfl⟩, fun k hk => ?_, rfl⟩
  match k, hk with
  | 0, _ => exact ⟨rfl, rfl, fun _ _ => rfl⟩
  | 1, _ => exact ⟨rfl, rfl, fun _ _ => rfl⟩
  | 2, _ => exact ⟨rfl, rfl, fun _ _ => rfl⟩
  | 3, _ => exact ⟨rfl, rfl, fun _ _ => rfl⟩
  | 4, _ => exact ⟨rfl, rfl, fun _ _ => rfl⟩
  | 5, _ => exact ⟨rfl, rfl, fun _ _ => rfl⟩
theorem zIv0 : zIv zI0 zL0 54 59 := ⟨0, 0, 0, 0, 0, 0, 0, 0, none, zIc0, zMd0⟩
theorem zsz_ok : ∀ a, a < 100 → (zsh a).1 < 13 → zcN (zsh a).1 ≤ (zsh a).2 := by decide +kernel
section S99a
variable {g : zG} {l : Launch} {d : Nat} {Q : Option Value → zW → Prop}
theorem zLA_ext {R : Nat → Nat → Option Nat} {I : Nat → Nat → Int32} {L : Nat → Nat → Int64} {pc : Nat} {lv : List (Nat × Value)} {fs : Nat × Nat × Option Nat} (h : ∀ a, a < 100 → ∀ k, k < (zsh a).2 → R a k = zR fs a k) (kk : zLA g l d I L fs pc lv Q) : zAW g l d 0 100 m_L_law (I, L, R, 100) pc lv [] Q :=
  fun p e Rm s m args below meth c H locs ls C hR hL hl => kk p e Rm s m args below meth c H locs ls C (zRep_ext h zsz_ok hR) hL hl
theorem zRunLaw (hd : 100 ≤ d) (hL31 : zgL g < 2 ^ 31) (hQ : ∀ I L h h2 o, zIv I L h h2 → Q (some (.int 1)) (zU I L (h, h2, o))) : zAW g l d 0 100 m_L_law (zIl [], zL0, zRl [], 0) 0 [(0, .ref 1004)] [] Q := by
  refine yNew (kd := 11) d_L_law_0 cl_L_7 in_X11 it_X11 (by decide) sh_0 (by unfold zFi; decide) (by unfold zFp; decide) (by decide) (n2 := 1) rfl (q := 3) rfl ?_
  refine zDup d_L_law_3 rfl (q := 4) rfl ?_
  refine yCallI d_L_law_4 ml_L_9 k_X11_init ki_X11_init rfl rfl (sp_X11_init (d := d - 1) (by omega)) rfl rfl (Nat.le_of_ble_eq_true rfl) (by decide) (by omega) ⟨by decide, by decide, by decide⟩ (q := 7) rfl ?_
  refine zAstoreN d_L_law_7 rfl (by decide) rfl (q := 8) rfl ?_
  refine yNew (kd := 12) d_L_law_8 cl_L_10 in_X12 it_X12 (by decide) sh_64 (by unfold zFi; decide) (by unfold zFp; decide) (by decide) (n2 := 65) rfl (q := 11) rfl ?_
  refine zDup d_L_law_11 rfl (q := 12) rfl ?_
  refine yCallI d_L_law_12 ml_L_12 k_X12_init ki_X12_init rfl rfl (sp_X12_init (d := d - 1) (by omega) (by unfold zFi; decide) (by unfold zFp; decide)) rfl rfl (Nat.le_of_ble_eq_true rfl) (by decide) (by omega) ⟨by decide, by decide, by decide⟩ (q := 15) rfl ?_
  refine zAstoreN d_L_law_15 rfl (by decide) rfl (q := 16) rfl ?_
  refine zIconst d_L_law_16 (v := nI 0) rfl (q := 17) rfl ?_
  refine zIstoreN d_L_law_17 rfl (by decide) rfl (q := 18) rfl ?_
  refine zLA_ext (fs := (54, 59, none)) (by decide +kernel) ?_
  refine zSub [0, 3, 2, 1] rfl ?_
  exact lw_loop hd hL31 hQ (zgL g) 0 (by omega) (Nat.zero_le _) zI0 zL0 54 59 none zIv0
end S99a
