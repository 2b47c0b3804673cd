/-! WHAT HOLDS BETWEEN TWO STEPS OF THE LAW -/
section S75
variable {I J V V' : Nat → Nat → Int32} {L L' K K' : Nat → Nat → Int64} {ns nt nh nb dn al m ks h h2 : Nat} {pg : Option (List zLine)}
theorem zMd_low (hJ : ∀ a, 64 ≤ a → J a = I a) (hl : L' 98 = L 98) (hM : zMd I L V K pg) : zMd J L' V K pg :=
  ⟨zMs_ex ⟨by rw [hJ 64 (by decide)], by rw [hJ 64 (by decide)], by rw [hJ 64 (by decide)]⟩ (fun a ha => hJ a (by omega)) (fun _ _ => rfl) hM.1,
   zMt_ex (by rw [hJ 64 (by decide)]) (hJ _ (by decide)) ⟨rfl, rfl⟩ hM.2.1,
   zMc_ex ⟨by rw [hJ 64 (by decide)], by rw [hJ 64 (by decide)]⟩ (fun a ha => hJ a (by omega)) (fun _ _ => rfl) hM.2.2.1,
   zMi_ex (fun k _ => by rw [hJ 64 (by decide)]) (hJ _ (by decide)) ⟨rfl, rfl⟩ hM.2.2.2.1,
   zMa_ex ⟨by rw [hJ 64 (by decide)], by rw [hJ 64 (by decide)]⟩ ⟨hJ _ (by decide), hJ _ (by decide)⟩ ⟨rfl, rfl, rfl⟩ hM.2.2.2.2.1,
   fun k hk => by rw [hJ 97 (by decide), hJ 96 (by decide), hl]; exact hM.2.2.2.2.2.1 k hk,
   zMl_ex (by rw [hJ 64 (by decide)]) (fun a ha => hJ a (by omega)) hM.2.2.2.2.2.2⟩
theorem zMd_scr (v : ∀ a, (a ≤ 15 ∨ (29 ≤ a ∧ a < 54)) → V' a = V a) (k : ∀ a, 43 ≤ a → a ≤ 53 → K' a = K a) (hM : zMd I L V K pg) : zMd I L V' K' pg :=
  ⟨zMs_ex ⟨rfl, rfl, rfl⟩ (fun _ _ => rfl) (fun a ha => v a (by omega)) hM.1, zMt_ex rfl rfl ⟨v _ (by decide), v _ (by decide)⟩ hM.2.1, zMc_ex ⟨rfl, rfl⟩ (fun _ _ => rfl) (fun a ha => v a (by omega)) hM.2.2.1,
   zMi_ex (fun _ _ => rfl) rfl ⟨v _ (by decide), v _ (by decide)⟩ hM.2.2.2.1, zMa_ex ⟨rfl, rfl⟩ ⟨rfl, rfl⟩ ⟨v _ (by decide), v _ (by decide), v _ (by decide)⟩ hM.2.2.2.2.1,
   fun q hq => by rw [v (42 + 2 * q) (by omega), k (43 + 2 * q) (by omega) (by omega)]; exact hM.2.2.2.2.2.1 q hq, hM.2.2.2.2.2.2⟩
/-- the class's own half -/
def zIc (V : Nat → Nat → Int32) (h h2 ns nt nh nb dn al m ks : Nat) (pg : Option (List zLine)) : Prop :=
  (zSky V ns nt nh ∧ zBd V ns nt nh) ∧ (V 38 2 = nI nb ∧ nb ≤ 50 ∧ zKd V nb ∧ zBh V nb) ∧ (V 31 4 = nI dn ∧ V 31 5 = nI al ∧ dn ≤ al ∧ al ≤ 40 ∧ zBc V ns nt nh al) ∧
  (V 29 1 = nI m ∧ m ≤ 120 ∧ ∀ k, 0 ≤ V 30 k ∧ V 30 k ≤ 255) ∧ (V 36 3 = nI ks ∧ ks ≤ ns ∧ (V 36 6 = 0 ∨ (zMay (nI 9) (V 36 4) ∧ zMay (nI 11) (V 36 5)))) ∧ ((h = 54 ∧ h2 = 59) ∨ (h = 59 ∧ h2 = 54)) ∧ zLawOk V h pg
theorem zBd_ex (v : ∀ a, a ≤ 15 → V' a = V a) (hB : zBd V ns nt nh) : zBd V' ns nt nh :=
  ⟨fun j k hj hk => by rw [v (3 + j) (by omega)]; exact hB.1 j k hj hk, fun k hk => by rw [v 7 (by decide), v 8 (by decide)]; exact hB.2 k hk⟩
theorem zIc_ex (v : ∀ a, (a ≤ 15 ∨ (29 ≤ a ∧ a < 54) ∨ (h ≤ a ∧ a ≤ h + 2)) → V' a = V a) (k : zIc V h h2 ns nt nh nb dn al m ks pg) : zIc V' h h2 ns nt nh nb dn al m ks pg := by
  obtain ⟨⟨a1, a2⟩, ⟨b1, b2, b3, b4⟩, ⟨c1, c2, c3, c4, c5⟩, ⟨d1, d2, d3⟩, ⟨e1, e2, e3⟩, f1, g1⟩ := k
  refine ⟨⟨zSky_of (v 1 (by omega)) a1, zBd_ex (fun a ha => v a (by omega)) a2⟩, ⟨by rw [v 38 (by omega)]; exact b1, b2, ?_, fun q hq => by rw [v (42 + 2 * q) (by omega)]; exact b4 q hq⟩,
    ⟨by rw [v 31 (by omega)]; exact c1, by rw [v 31 (by omega)]; exact c2, c3, c4, ?_⟩, ⟨by rw [v 29 (by omega)]; exact d1, d2, by rw [v 30 (by omega)]; exact d3⟩, ⟨by rw [v 36 (by omega)]; exact e1, e2, by rw [v 36 (by omega)]; exact e3⟩, f1,
    zLawOk_ex (v h (by omega)) (v (h + 1) (by omega)) (v (h + 2) (by omega)) g1⟩
  · intro i hi; rw [v 39 (by omega)]; exact b3 i hi
  · intro i hi; rw [v 32 (by omega), v 33 (by omega), v 34 (by omega), v 35 (by omega)]; exact c5 i hi
/-- both halves, and how they lie to each other -/
def zIv (I : Nat → Nat → Int32) (L : Nat → Nat → Int64) (h h2 : Nat) : Prop :=
  ∃ ns nt nh nb dn al m ks pg, zIc I h h2 ns nt nh nb dn al m ks pg ∧ zMd I L I L pg
/-- behind a pair of calls -/
theorem zIv_next (c : zIc V' h h2 ns nt nh nb dn al m ks pg) (hf : ∀ a, (a ≤ 15 ∨ (29 ≤ a ∧ a < 54) ∨ (h ≤ a ∧ a ≤ h + 2)) → J a = V' a) (hM : zMd J L' V' K' pg) (hk : ∀ a, 43 ≤ a → a ≤ 53 → L' a = K' a) : zIv J L' h h2 :=
  ⟨ns, nt, nh, nb, dn, al, m, ks, pg, zIc_ex hf c, zMd_scr (V := V') (K := K') (fun a ha => hf a (by omega)) hk hM⟩
end S75
/-- the law itself -/
def m_L_law : zM := (RL, ⟨RL, "law", "([I)Z"⟩, code, 4, (some FieldType.boolean))
/-- from here the law ends with Q -/
abbrev zLA (g : zG) (l : Launch) (d : Nat) (I : Nat → Nat → Int32) (L : Nat → Nat → Int64) (fs : Nat × Nat × Option Nat) (pc : Nat) (lv : List (Nat × Value)) (Q : Option Value → zW → Prop) : Prop := zAW g l d 0 100 m_L_law (zU I L fs) pc lv [] Q
theorem zns0 : zNs 0 100 100 100 := ⟨Nat.zero_le _, Nat.le_refl _, Nat.le_refl _⟩
