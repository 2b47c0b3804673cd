
/-! A TEXT IS READ -/
abbrev zRr : Type := Nat × Option (List zSt1)
def zAt (T : Nat → Int32) (m p : Nat) : Int32 := if p < m then T p else -1
def zTi (c : Int32) : Int32 := if c = 37 then 4 else if c = 38 then 1 else if c = 42 then 4 else if c = 43 then 3 else if c = 45 then 3 else if c = 47 then 4 else if c = 60 then 2 else if c = 61 then 2 else if c = 62 then 2 else if c = 124 then 0 else -1
def zNm (c : Int32) : Int32 := if c = 97 then 4 else if c = 98 then 2 else if c = 102 then 0 else if c = 109 then 5 else if c = 115 then 1 else if c = 121 then 3 else -1
def zDg (c : Int32) : Prop := 48 ≤ c ∧ c ≤ 57
def zNv (T : Nat → Int32) (m p : Nat) : Nat → Int32
  | 0 => 0
  | k + 1 => 10 * zNv T m p k + zAt T m (p + k) - 48
def zDgb (T : Nat → Int32) (m p k : Nat) : Bool := decide (48 ≤ zAt T m (p + k) ∧ zAt T m (p + k) ≤ 57)
def zNd (T : Nat → Int32) (m p : Nat) : Nat := zrun (zDgb T m p) 4 0
def zMoreJ (f : Nat → zRr) (T : Nat → Int32) (m : Nat) (t : Int32) : Nat → Nat → List zSt1 → zRr
  | 0, p, c => (p, some c)
  | n + 1, p, c => if zTi (zAt T m p) = t then (match (f (p + 1)).2 with | none => ((f (p + 1)).1, none) | some c1 => zMoreJ f T m t n (f (p + 1)).1 (c ++ (c1 ++ [(zAt T m p, 0)]))) else (p, some c)
def zJoinP (f : Nat → zRr) (T : Nat → Int32) (m : Nat) (t : Int32) (n p : Nat) : zRr :=
  match (f p).2 with | none => ((f p).1, none) | some c => zMoreJ f T m t n (f p).1 c
def zLev (f : Nat → zRr) (T : Nat → Int32) (m : Nat) : Nat → Nat → zRr
  | 0, p => f p
  | j + 1, p => zJoinP (zLev f T m j) T m (nI (4 - j)) (if j = 2 then 1 else 120) p
def zOpB (f : Nat → zRr) (T : Nat → Int32) (m p : Nat) : zRr :=
  match (zLev f T m 5 (p + 1)).2 with
  | none => ((zLev f T m 5 (p + 1)).1, none)
  | some c => if zAt T m (zLev f T m 5 (p + 1)).1 = 41 then ((zLev f T m 5 (p + 1)).1 + 1, some c) else ((zLev f T m 5 (p + 1)).1, none)
def zOpT (f : Nat → zRr) (s : Int32) (p : Nat) : zRr :=
  match (f (p + 1)).2 with
  | none => ((f (p + 1)).1, none)
  | some c => ((f (p + 1)).1, some (c ++ [(if s = 33 then 4 else 5, 0)]))
def zOpS (T : Nat → Int32) (m p : Nat) : zRr :=
  if 48 ≤ zAt T m p ∧ zAt T m p ≤ 57 then (p + zNd T m p, some [(0, zNv T m p (zNd T m p))]) else if zNm (zAt T m p) < 0 then (p, none) else (p + 1, some [(1, zNm (zAt T m p))])
def zOp (T : Nat → Int32) (m : Nat) : Nat → Nat → zRr
  | 0, p => if zAt T m p = 40 ∨ zAt T m p = 33 ∨ zAt T m p = 45 then (p, none) else zOpS T m p
  | r + 1, p => if zAt T m p = 40 then zOpB (zOp T m r) T m p else if zAt T m p = 33 ∨ zAt T m p = 45 then zOpT (zOp T m r) (zAt T m p) p else zOpS T m p
/-- what is read takes a byte for each step, and puts one more on the stack -/
def zGd (m : Nat) (f : Nat → zRr) : Prop := ∀ p, p ≤ m → (f p).1 ≤ m ∧ p ≤ (f p).1 ∧ ∀ c, (f p).2 = some c → p + c.length ≤ (f p).1 ∧ p < (f p).1 ∧ ∀ a b r, zWfS r (a + 1) b → zWfS (c ++ r) a b
theorem zAt_in {T : Nat → Int32} {m p : Nat} (h : zAt T m p ≠ -1) : p < m := by
  unfold zAt at h
  by_cases q : p < m
  · exact q
  · rw [if_neg q] at h; exact absurd rfl h
theorem zTi_s {c : Int32} {t : Nat} (ht : t < 5) (h : zTi c = nI t) : c ∈ ([37, 38, 42, 43, 45, 47, 60, 61, 62, 124] : List Int32) := by
  have h2 : zTi c ≠ -1 := by rw [h]; intro e; have := (nI_leI (a := 0) (b := t) (by omega) (by omega)).mpr (Nat.zero_le _); rw [e] at this; exact absurd this (by decide)
  unfold zTi at h2
  simp only [List.mem_cons, List.mem_nil_iff]
  grind
theorem zTi_in {T : Nat → Int32} {m p t : Nat} (ht : t < 5) (h : zTi (zAt T m p) = nI t) : p < m := by
  apply zAt_in
  intro e
  have := zTi_s ht h
  rw [e] at this
  exact absurd this (by decide)
theorem zMoreJ_gd {m : Nat} {f : Nat → zRr} {T : Nat → Int32} {t : Nat} (ht : t < 5) (hf : zGd m f) : ∀ (n p : Nat) (c : List zSt1) (q : Nat), q < p → p ≤ m → q + c.length ≤ p → (∀ a b r, zWfS r (a + 1) b → zWfS (c ++ r) a b) →
    (zMoreJ f T m (nI t) n p c).1 ≤ m ∧ q ≤ (zMoreJ f T m (nI t) n p c).1 ∧ ∀ c', (zMoreJ f T m (nI t) n p c).2 = some c' → q + c'.length ≤ (zMoreJ f T m (nI t) n p c).1 ∧ q < (zMoreJ f T m (nI t) n p c).1 ∧ ∀ a b r, zWfS r (a + 1) b → zWfS (c' ++ r) a b := by
  intro n
  induction n with
  | zero => intro p c q h1 h2 h3 h4; exact ⟨h2, Nat.le_of_lt h1, fun c' e => by cases e; exact ⟨h3, h1, h4⟩⟩
  | succ n ih =>
    intro p c q h1 h2 h3 h4
    unfold zMoreJ
    by_cases e : zTi (zAt T m p) = nI t
    · rw [if_pos e]
      have hp := zTi_in ht e
      obtain ⟨g1, g2, g3⟩ := hf (p + 1) (by omega)
      rcases e2 : (f (p + 1)).2 with _ | c1
      · exact ⟨g1, by show q ≤ (f (p + 1)).1; omega, fun c' e3 => by cases e3⟩
      · obtain ⟨g4, g5, g6⟩ := g3 c1 e2
        refine ih _ _ q (by omega) g1 (by rw [List.length_append, List.length_append]; simp only [List.length_cons, List.length_nil]; omega) (fun a b r hr => ?_)
        rw [List.append_assoc, List.append_assoc]
        refine h4 a b _ (g6 (a + 1) b _ ?_)
        exact Or.inr (Or.inr (Or.inr ⟨zTi_s ht e, by omega, hr⟩))
    · rw [if_neg e]
      exact ⟨h2, Nat.le_of_lt h1, fun c' e => by cases e; exact ⟨h3, h1, h4⟩⟩
theorem zJoinP_gd {m : Nat} {f : Nat → zRr} {T : Nat → Int32} {t n : Nat} (ht : t < 5) (hf : zGd m f) : zGd m (zJoinP f T m (nI t) n) := by
  intro p hp
  obtain ⟨g1, g2, g3⟩ := hf p hp
  unfold zJoinP
  rcases e2 : (f p).2 with _ | c1
  · exact ⟨g1, g2, fun c' e3 => by cases e3⟩
  · obtain ⟨g4, g5, g6⟩ := g3 c1 e2
    exact zMoreJ_gd ht hf n _ _ p g5 g1 g4 g6
theorem zLev_gd {m : Nat} {f : Nat → zRr} {T : Nat → Int32} (hf : zGd m f) : ∀ j, j ≤ 5 → zGd m (zLev f T m j) := by
  intro j
  induction j with
  | zero => intro _; exact hf
  | succ j ih => intro hj; exact zJoinP_gd (by omega) (ih (by omega))
theorem zNd_le {T : Nat → Int32} {m p : Nat} : zNd T m p ≤ 4 := (zrun_spec (zDgb T m p) 4 0 (Nat.zero_le _)).2.1
theorem zNd_in {T : Nat → Int32} {m p : Nat} : ∀ i, i < zNd T m p → p + i < m := by
  intro i hi
  have h : zDgb T m p i = true := (zrun_spec (zDgb T m p) 4 0 (Nat.zero_le _)).2.2.1 i (Nat.zero_le _) hi
  apply zAt_in
  intro e
  unfold zDgb at h
  rw [e] at h
  exact absurd h (by decide)
theorem zNd_pos {T : Nat → Int32} {m p : Nat} (h : 48 ≤ zAt T m p ∧ zAt T m p ≤ 57) : 0 < zNd T m p := by
  have h0 : zDgb T m p 0 = true := by unfold zDgb; exact decide_eq_true h
  have : zNd T m p = zrun (zDgb T m p) 4 1 := zrun_t (by decide) h0
  rw [this]
  exact (zrun_spec (zDgb T m p) 4 1 (by decide)).1
theorem zNm_lt {c : Int32} (h : ¬ zNm c < 0) : ∃ k : Nat, k < 6 ∧ zNm c = nI k := by
  by_cases h1 : c = 97
  · exact ⟨4, by decide, by rw [h1]; rfl⟩
  by_cases h2 : c = 98
  · exact ⟨2, by decide, by rw [h2]; rfl⟩
  by_cases h3 : c = 102
  · exact ⟨0, by decide, by rw [h3]; rfl⟩
  by_cases h4 : c = 109
  · exact ⟨5, by decide, by rw [h4]; rfl⟩
  by_cases h5 : c = 115
  · exact ⟨1, by decide, by rw [h5]; rfl⟩
  by_cases h6 : c = 121
  · exact ⟨3, by decide, by rw [h6]; rfl⟩
  exact absurd (by unfold zNm; rw [if_neg h1, if_neg h2, if_neg h3, if_neg h4, if_neg h5, if_neg h6]; decide) h
theorem zOpS_gd {m : Nat} {T : Nat → Int32} : zGd m (zOpS T m) := by
  intro p hp
  unfold zOpS
  by_cases h : 48 ≤ zAt T m p ∧ zAt T m p ≤ 57
  · rw [if_pos h]
    have h0 := zNd_pos h
    have h1 := zNd_in (T := T) (m := m) (p := p) (zNd T m p - 1) (by omega)
    refine ⟨by show p + zNd T m p ≤ m; omega, Nat.le_add_right _ _, fun c e => ?_⟩
    cases e
    exact ⟨by show p + 1 ≤ p + zNd T m p; omega, by show p < p + zNd T m p; omega, fun a b r hr => Or.inl ⟨rfl, hr⟩⟩
  · rw [if_neg h]
    by_cases h2 : zNm (zAt T m p) < 0
    · rw [if_pos h2]
      exact ⟨hp, Nat.le_refl _, fun c e => by cases e⟩
    · rw [if_neg h2]
      have h3 : p < m := zAt_in (fun e => h2 (by rw [e]; decide))
      refine ⟨h3, by show p ≤ p + 1; omega, fun c e => ?_⟩
      cases e
      exact ⟨Nat.le_refl _, by show p < p + 1; omega, fun a b r hr => Or.inr (Or.inl ⟨rfl, zNm_lt h2, hr⟩)⟩
theorem zOp_gd {m : Nat} {T : Nat → Int32} : ∀ r, zGd m (zOp T m r) := by
  intro r
  induction r with
  | zero =>
    intro p hp
    unfold zOp
    by_cases h : zAt T m p = 40 ∨ zAt T m p = 33 ∨ zAt T m p = 45
    · rw [if_pos h]; exact ⟨hp, Nat.le_refl _, fun c e => by cases e⟩
    · rw [if_neg h]; exact zOpS_gd p hp
  | succ r ih =>
    intro p hp
    unfold zOp
    by_cases h : zAt T m p = 40
    · rw [if_pos h]
      have hp1 : p < m := zAt_in (by rw [h]; decide)
      obtain ⟨g1, g2, g3⟩ := zLev_gd (T := T) ih 5 (by omega) (p + 1) (by omega)
      rcases e2 : (zLev (zOp T m r) T m 5 (p + 1)).2 with _ | c1
      · have e5 : zOpB (zOp T m r) T m p = ((zLev (zOp T m r) T m 5 (p + 1)).1, none) := by unfold zOpB; rw [e2]
        rw [e5]
        exact ⟨g1, by show p ≤ (zLev (zOp T m r) T m 5 (p + 1)).1; omega, fun c' e3 => by cases e3⟩
      · obtain ⟨g4, g5, g6⟩ := g3 c1 e2
        by_cases h4 : zAt T m (zLev (zOp T m r) T m 5 (p + 1)).1 = 41
        · have e5 : zOpB (zOp T m r) T m p = ((zLev (zOp T m r) T m 5 (p + 1)).1 + 1, some c1) := by unfold zOpB; rw [e2]; exact if_pos h4
          rw [e5]
          have h5 := zAt_in (show zAt T m (zLev (zOp T m r) T m 5 (p + 1)).1 ≠ -1 by rw [h4]; decide)
          refine ⟨h5, by show p ≤ (zLev (zOp T m r) T m 5 (p + 1)).1 + 1; omega, fun c e => ?_⟩
          cases e
          exact ⟨by show p + c1.length ≤ (zLev (zOp T m r) T m 5 (p + 1)).1 + 1; omega, by show p < (zLev (zOp T m r) T m 5 (p + 1)).1 + 1; omega, g6⟩
        · have e5 : zOpB (zOp T m r) T m p = ((zLev (zOp T m r) T m 5 (p + 1)).1, none) := by unfold zOpB; rw [e2]; exact if_neg h4
          rw [e5]
          exact ⟨g1, by show p ≤ (zLev (zOp T m r) T m 5 (p + 1)).1; omega, fun c e => by cases e⟩
    · rw [if_neg h]
      by_cases h1 : zAt T m p = 33 ∨ zAt T m p = 45
      · rw [if_pos h1]
        have hp1 : p < m := zAt_in (by rcases h1 with h1 | h1 <;> rw [h1] <;> decide)
        obtain ⟨g1, g2, g3⟩ := ih (p + 1) (by omega)
        unfold zOpT
        rcases e2 : (zOp T m r (p + 1)).2 with _ | c1
        · exact ⟨g1, by show p ≤ (zOp T m r (p + 1)).1; omega, fun c' e3 => by cases e3⟩
        · obtain ⟨g4, g5, g6⟩ := g3 c1 e2
          refine ⟨g1, by show p ≤ (zOp T m r (p + 1)).1; omega, fun c e => ?_⟩
          cases e
          refine ⟨by rw [List.length_append]; show p + (c1.length + 1) ≤ (zOp T m r (p + 1)).1; omega, by show p < (zOp T m r (p + 1)).1; omega, fun a b r' hr => ?_⟩
          rw [List.append_assoc]
          refine g6 a b _ (Or.inr (Or.inr (Or.inl ⟨?_, by omega, hr⟩)))
          by_cases e5 : zAt T m p = 33
          · rw [if_pos e5]; exact Or.inl rfl
          · rw [if_neg e5]; exact Or.inr rfl
      · rw [if_neg h1]; exact zOpS_gd p hp

