/-! A TEXT READ BY BYTES -/
def yRl (a b : Int32) : Prop := a = b ∨ (128 ≤ a ∧ b < 0)
theorem yRl_byte : ∀ n, n < 256 → (nI n = (nI n).toInt8.toInt32 ∨ (128 ≤ nI n ∧ (nI n).toInt8.toInt32 < 0)) := by decide +kernel
theorem yRl_c {a b : Int32} (h : yRl a b) {c : Int32} (h0 : 0 ≤ c) (h1 : c < 128) : (a = c) = (b = c) := by
  rcases h with rfl | ⟨k1, k2⟩
  · rfl
  · exact propext ⟨fun e => by subst e; exact absurd h1 (Int32.not_lt.mpr k1), fun e => by subst e; exact absurd h0 (Int32.not_le.mpr k2)⟩
theorem yRl_d {a b : Int32} (h : yRl a b) : (48 ≤ a ∧ a ≤ 57) = (48 ≤ b ∧ b ≤ 57) := by
  rcases h with rfl | ⟨k1, k2⟩
  · rfl
  · exact propext ⟨fun e => absurd (Int32.le_trans k1 e.2) (by decide), fun e => absurd (Int32.lt_of_le_of_lt e.1 k2) (by decide)⟩
theorem zTi_bad {x : Int32} (h : 128 ≤ x ∨ x < 0) : zTi x = -1 := by
  unfold zTi
  repeat rw [if_neg (by rintro rfl; revert h; decide)]
theorem zNm_bad {x : Int32} (h : 128 ≤ x ∨ x < 0) : zNm x = -1 := by
  unfold zNm
  repeat rw [if_neg (by rintro rfl; revert h; decide)]
theorem yRl_ti {a b : Int32} (h : yRl a b) : zTi a = zTi b := by
  rcases h with rfl | ⟨k1, k2⟩
  · rfl
  · rw [zTi_bad (Or.inl k1), zTi_bad (Or.inr k2)]
theorem yRl_nm {a b : Int32} (h : yRl a b) : zNm a = zNm b := by
  rcases h with rfl | ⟨k1, k2⟩
  · rfl
  · rw [zNm_bad (Or.inl k1), zNm_bad (Or.inr k2)]
theorem yRl_t {a b : Int32} {t : Nat} (ht : t < 5) (h : yRl a b) (e : zTi a = nI t) : a = b := by
  rcases h with h | ⟨k1, k2⟩
  · exact h
  · rw [zTi_bad (Or.inl k1)] at e
    have := (nI_leI (a := 0) (b := t) (by omega) (by omega)).mpr (Nat.zero_le _)
    rw [← e] at this
    exact absurd this (by decide)
section S73
variable {T S : Nat → Int32} {m : Nat}
theorem zNv_cg {p : Nat} : ∀ k, (∀ i, i < k → zAt T m (p + i) = zAt S m (p + i)) → zNv T m p k = zNv S m p k
  | 0, _ => rfl
  | k + 1, h => by
    unfold zNv
    rw [zNv_cg k (fun i hi => h i (by omega)), h k (Nat.lt_succ_self _)]
theorem zNd_cg (R : ∀ p, yRl (zAt T m p) (zAt S m p)) {p : Nat} : zNd T m p = zNd S m p := by
  unfold zNd
  have : zDgb T m p = zDgb S m p := by
    funext k
    unfold zDgb
    exact decide_eq_decide.mpr (iff_of_eq (yRl_d (R (p + k))))
  rw [this]
theorem zOpS_cg (R : ∀ p, yRl (zAt T m p) (zAt S m p)) {p : Nat} : zOpS T m p = zOpS S m p := by
  have e : zNv T m p (zNd T m p) = zNv S m p (zNd T m p) := by
    refine zNv_cg _ (fun i hi => ?_)
    have h1 := (zrun_spec (zDgb T m p) 4 0 (by decide)).2.2.1 i (Nat.zero_le _) hi
    have h2 : 48 ≤ zAt T m (p + i) ∧ zAt T m (p + i) ≤ 57 := of_decide_eq_true h1
    rcases R (p + i) with h | ⟨k1, -⟩
    · exact h
    · exact absurd (Int32.le_trans k1 h2.2) (by decide)
  unfold zOpS
  rw [e, zNd_cg R, yRl_nm (R p)]
  have c := yRl_d (R p)
  by_cases q : 48 ≤ zAt T m p ∧ zAt T m p ≤ 57
  · rw [if_pos q, if_pos (show 48 ≤ zAt S m p ∧ zAt S m p ≤ 57 from c ▸ q)]
  · rw [if_neg q, if_neg (show ¬ (48 ≤ zAt S m p ∧ zAt S m p ≤ 57) from c ▸ q)]
theorem zMoreJ_cg (R : ∀ p, yRl (zAt T m p) (zAt S m p)) {f : Nat → zRr} {t : Nat} (ht : t < 5) : ∀ n p c, zMoreJ f T m (nI t) n p c = zMoreJ f S m (nI t) n p c
  | 0, _, _ => rfl
  | n + 1, p, c => by
    unfold zMoreJ
    by_cases q : zTi (zAt T m p) = nI t
    · have e := yRl_t ht (R p) q
      rw [if_pos q, if_pos (e ▸ q), e]
      cases (f (p + 1)).2 with
      | none => rfl
      | some c1 => exact zMoreJ_cg R ht n _ _
    · rw [if_neg q, if_neg (by rw [← yRl_ti (R p)]; exact q)]
theorem zLev_cg (R : ∀ p, yRl (zAt T m p) (zAt S m p)) {f : Nat → zRr} : ∀ j, zLev f T m j = zLev f S m j
  | 0 => rfl
  | j + 1 => by
    funext p
    show zJoinP (zLev f T m j) T m (nI (4 - j)) _ p = zJoinP (zLev f S m j) S m (nI (4 - j)) _ p
    rw [zLev_cg R j]
    unfold zJoinP
    cases (zLev f S m j p).2 with
    | none => rfl
    | some c => exact zMoreJ_cg R (by omega) _ _ _
theorem zOp_cg (R : ∀ p, yRl (zAt T m p) (zAt S m p)) : ∀ r, zOp T m r = zOp S m r
  | 0 => by
    funext p
    unfold zOp
    simp only [yRl_c (R p) (c := 40) (by decide) (by decide), yRl_c (R p) (c := 33) (by decide) (by decide), yRl_c (R p) (c := 45) (by decide) (by decide), zOpS_cg R]
  | r + 1 => by
    funext p
    unfold zOp
    rw [zOp_cg R r, zOpS_cg R]
    have h40 := yRl_c (R p) (c := 40) (by decide) (by decide)
    have h33 := yRl_c (R p) (c := 33) (by decide) (by decide)
    have eB : zOpB (zOp S m r) T m p = zOpB (zOp S m r) S m p := by
      unfold zOpB
      rw [zLev_cg R]
      cases (zLev (zOp S m r) S m 5 (p + 1)).2 with
      | none => rfl
      | some c => simp only [yRl_c (R _) (c := 41) (by decide) (by decide)]
    have eT : zAt T m p = 33 ∨ zAt T m p = 45 → zOpT (zOp S m r) (zAt T m p) p = zOpT (zOp S m r) (zAt S m p) p := fun q => by
      rcases R p with h | ⟨k1, -⟩
      · rw [h]
      · rcases q with q | q <;> (rw [q] at k1; exact absurd k1 (by decide))
    by_cases c40 : zAt T m p = 40
    · rw [if_pos c40, if_pos (show zAt S m p = 40 from h40 ▸ c40), eB]
    · rw [if_neg c40, if_neg (show ¬ zAt S m p = 40 from h40 ▸ c40)]
      have c2 : (zAt T m p = 33 ∨ zAt T m p = 45) = (zAt S m p = 33 ∨ zAt S m p = 45) := by rw [h33, yRl_c (R p) (c := 45) (by decide) (by decide)]
      by_cases q : zAt T m p = 33 ∨ zAt T m p = 45
      · rw [if_pos q, if_pos (show zAt S m p = 33 ∨ zAt S m p = 45 from c2 ▸ q), eT q]
      · rw [if_neg q, if_neg (show ¬ (zAt S m p = 33 ∨ zAt S m p = 45) from c2 ▸ q)]
theorem zE_cg (R : ∀ p, yRl (zAt T m p) (zAt S m p)) : zE T m = zE S m := by unfold zE; rw [zOp_cg R, zLev_cg R]
theorem zLn_cg (R : ∀ p, yRl (zAt T m p) (zAt S m p)) {p : Nat} : zLn T m p = zLn S m p := by
  unfold zLn
  rw [zE_cg R]
  cases (zE S m p).2 with
  | none => rfl
  | some c => simp only [yRl_c (R _) (c := 63) (by decide) (by decide)]
theorem zTx_cg (R : ∀ p, yRl (zAt T m p) (zAt S m p)) : ∀ n p pg, zTx T m n p pg = zTx S m n p pg
  | 0, _, _ => rfl
  | n + 1, p, pg => by
    unfold zTx
    rw [zLn_cg R]
    cases (zLn S m p).2 with
    | none => rfl
    | some y =>
      have c := yRl_c (R (zLn S m p).1) (c := 59) (by decide) (by decide)
      by_cases q : zAt T m (zLn S m p).1 = 59
      · show (if _ then _ else _) = (if _ then _ else _)
        rw [if_pos q, if_pos (show zAt S m (zLn S m p).1 = 59 from c ▸ q)]; exact zTx_cg R n _ _
      · show (if _ then _ else _) = (if _ then _ else _)
        rw [if_neg q, if_neg (show ¬ zAt S m (zLn S m p).1 = 59 from c ▸ q)]
theorem zTR_cg (R : ∀ p, yRl (zAt T m p) (zAt S m p)) : zTR T m = zTR S m := zTx_cg R _ _ _
theorem zFa_cg (R : ∀ p, yRl (zAt T m p) (zAt S m p)) : zFa T m = zFa S m := by unfold zFa; rw [zTR_cg R]
end S73
theorem yRl_V {V : Nat → Nat → Int32} {m : Nat} (hb : ∀ k, 0 ≤ V 30 k ∧ V 30 k ≤ 255) : ∀ p, yRl (zAt (V 30) m p) (zAt (fun k => (V 30 k).toInt8.toInt32) m p) := by
  intro p
  unfold zAt
  by_cases q : p < m
  · rw [if_pos q, if_pos q]
    obtain ⟨n, hn, e⟩ := zn1 (x := V 30 p) (n := 256) (by decide) (hb p).1 (by have := (hb p).2; show V 30 p < 256; grind)
    show yRl (V 30 p) (V 30 p).toInt8.toInt32
    rw [e]; exact yRl_byte n hn
  · rw [if_neg q, if_neg q]; exact Or.inl rfl
