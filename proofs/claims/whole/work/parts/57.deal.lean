/-! WHO SHOULD THROW WHICH: gone through one by one, and dealt at once -/
def yCn (T u t : Nat) : Nat → Nat
  | 0 => 0
  | n + 1 => yCn T u t n + (if u / T ^ n % T = t then 1 else 0)
def yP (sp : Nat → Nat) (m : Nat) : Nat → Nat
  | 0 => 0
  | t + 1 => yP sp m t + m / sp t
def yG (sp : Nat → Nat) (m T k : Nat) : Nat := zrun (fun t => decide (yP sp m (t + 1) ≤ k)) T 0
def yW (sp : Nat → Nat) (m T : Nat) : Nat → Nat → Nat
  | 0, _ => 0
  | n + 1, k => yG sp m T k * T ^ n + yW sp m T n (k + 1)
def ySt2 (sp : Nat → Nat) (m k t : Nat) : Nat := min (m / sp t) (k - yP sp m t)
theorem yP_mono {sp : Nat → Nat} {m a b : Nat} (h : a ≤ b) : yP sp m a ≤ yP sp m b := by
  induction h with
  | refl => exact Nat.le_refl _
  | step _ ih => exact Nat.le_trans ih (Nat.le_add_right _ _)
theorem yG_spec {sp : Nat → Nat} {m T k : Nat} (h : k < yP sp m T) : yG sp m T k < T ∧ yP sp m (yG sp m T k) ≤ k ∧ k < yP sp m (yG sp m T k + 1) := by
  have s := zrun_spec (fun t => decide (yP sp m (t + 1) ≤ k)) T 0 (Nat.zero_le _)
  have hlt : yG sp m T k < T := by
    rcases Nat.eq_or_lt_of_le s.2.1 with e | e
    · exfalso
      cases T with
      | zero => exact absurd h (Nat.not_lt_zero _)
      | succ T =>
        have := s.2.2.1 T (Nat.zero_le _) (by omega)
        rw [decide_eq_true_eq] at this
        omega
    · exact e
  refine ⟨hlt, ?_, ?_⟩
  · cases e : yG sp m T k with
    | zero => exact Nat.zero_le _
    | succ g =>
      have := s.2.2.1 g (Nat.zero_le _) (by show g < yG sp m T k; omega)
      rw [decide_eq_true_eq] at this
      exact this
  · have := s.2.2.2 hlt
    rw [decide_eq_true_eq] at this
    exact Nat.not_le.mp this
theorem yW_lt {sp : Nat → Nat} {m T : Nat} : ∀ n k, k + n ≤ yP sp m T → yW sp m T n k < T ^ n
  | 0, _, _ => Nat.one_pos
  | n + 1, k, h => by
    have h1 := yW_lt (sp := sp) (m := m) (T := T) n (k + 1) (by omega)
    have h2 := (yG_spec (sp := sp) (m := m) (T := T) (k := k) (by omega)).1
    show yG sp m T k * T ^ n + yW sp m T n (k + 1) < T ^ (n + 1)
    calc yG sp m T k * T ^ n + yW sp m T n (k + 1) < yG sp m T k * T ^ n + T ^ n := by omega
      _ = (yG sp m T k + 1) * T ^ n := by rw [Nat.add_mul, Nat.one_mul]
      _ ≤ T * T ^ n := Nat.mul_le_mul_right _ h2
      _ = T ^ (n + 1) := by rw [Nat.pow_succ, Nat.mul_comm]
theorem ydig_top {T d n r : Nat} (hr : r < T ^ n) (hd : d < T) : (d * T ^ n + r) / T ^ n % T = d := by
  rw [Nat.mul_comm, Nat.mul_add_div (by omega), Nat.div_eq_of_lt hr, Nat.add_zero, Nat.mod_eq_of_lt hd]
theorem ydig_low {T d n r i : Nat} (hT : 0 < T) (hi : i < n) : (d * T ^ n + r) / T ^ i % T = r / T ^ i % T := by
  obtain ⟨j, rfl⟩ : ∃ j, n = i + (j + 1) := ⟨n - i - 1, by omega⟩
  have e : d * T ^ (i + (j + 1)) = T ^ i * (d * T ^ j * T) := by
    rw [Nat.pow_add, Nat.pow_succ]
    ac_rfl
  rw [e, Nat.mul_add_div (Nat.pow_pos hT), Nat.add_comm, Nat.add_mul_mod_self_right]
theorem yCn_low {T d n r t : Nat} (hT : 0 < T) : ∀ i, i ≤ n → yCn T (d * T ^ n + r) t i = yCn T r t i
  | 0, _ => rfl
  | i + 1, h => by
    show yCn T (d * T ^ n + r) t i + (if (d * T ^ n + r) / T ^ i % T = t then 1 else 0) = yCn T r t i + (if r / T ^ i % T = t then 1 else 0)
    rw [yCn_low hT i (by omega), ydig_low hT (by omega)]
theorem yCn_step {T d n r t : Nat} (hr : r < T ^ n) (hd : d < T) : yCn T (d * T ^ n + r) t (n + 1) = yCn T r t n + (if d = t then 1 else 0) := by
  show yCn T (d * T ^ n + r) t n + (if (d * T ^ n + r) / T ^ n % T = t then 1 else 0) = _
  rw [yCn_low (by omega) n (Nat.le_refl _), ydig_top hr hd]
theorem ySt2_step {sp : Nat → Nat} {m T k t : Nat} (h : k < yP sp m T) : ySt2 sp m (k + 1) t = ySt2 sp m k t + (if yG sp m T k = t then 1 else 0) := by
  obtain ⟨h1, h2, h3⟩ := yG_spec h
  obtain ⟨G, eG⟩ : ∃ G, G = yG sp m T k := ⟨_, rfl⟩
  rw [← eG] at h1 h2 h3 ⊢
  have h3 : k < yP sp m G + m / sp G := h3
  unfold ySt2
  rcases Nat.lt_trichotomy G t with c | c | c
  · have := yP_mono (sp := sp) (m := m) (a := G + 1) (b := t) c
    have e : yP sp m (G + 1) = yP sp m G + m / sp G := rfl
    rw [if_neg (by omega)]
    omega
  · subst c
    rw [if_pos rfl]
    omega
  · have := yP_mono (sp := sp) (m := m) (a := t + 1) (b := G) c
    have e : yP sp m (t + 1) = yP sp m t + m / sp t := rfl
    rw [if_neg (by omega)]
    omega
theorem yW_best {sp : Nat → Nat} {m T : Nat} : ∀ n k, k + n ≤ yP sp m T → (∀ t, t < T → ySt2 sp m k t + yCn T (yW sp m T n k) t n ≤ m / sp t) ∧ ∀ u, u < T ^ n → (∀ t, t < T → ySt2 sp m k t + yCn T u t n ≤ m / sp t) → yW sp m T n k ≤ u
  | 0, k, _ => ⟨fun t _ => Nat.min_le_left _ _, fun u _ _ => Nat.zero_le _⟩
  | n + 1, k, h => by
    have hk : k < yP sp m T := by omega
    obtain ⟨h1, h2, h3⟩ := yG_spec hk
    have hl := yW_lt (sp := sp) (m := m) (T := T) n (k + 1) (by omega)
    obtain ⟨i1, i2⟩ := yW_best (sp := sp) (m := m) (T := T) n (k + 1) (by omega)
    have eW : yW sp m T (n + 1) k = yG sp m T k * T ^ n + yW sp m T n (k + 1) := rfl
    constructor
    · intro t ht
      rw [eW, yCn_step hl h1]
      have := i1 t ht
      rw [ySt2_step hk] at this
      omega
    · intro u hu hf
      have hT : 0 < T := by omega
      have hp : 0 < T ^ n := Nat.pow_pos hT
      obtain ⟨d, ed⟩ : ∃ d, d = u / T ^ n := ⟨_, rfl⟩
      obtain ⟨r, er⟩ : ∃ r, r = u % T ^ n := ⟨_, rfl⟩
      have hr : r < T ^ n := by rw [er]; exact Nat.mod_lt _ hp
      have hd : d < T := by rw [ed]; exact Nat.div_lt_of_lt_mul (by rw [Nat.pow_succ] at hu; exact hu)
      have eu : u = d * T ^ n + r := by rw [ed, er, Nat.mul_comm]; exact (Nat.div_add_mod u (T ^ n)).symm
      subst eu
      rw [eW]
      have fd := hf d hd
      rw [yCn_step hr hd, if_pos rfl] at fd
      rcases Nat.lt_trichotomy (yG sp m T k) d with c | c | c
      · calc yG sp m T k * T ^ n + yW sp m T n (k + 1) ≤ yG sp m T k * T ^ n + T ^ n := by omega
          _ = (yG sp m T k + 1) * T ^ n := by rw [Nat.add_mul, Nat.one_mul]
          _ ≤ d * T ^ n := Nat.mul_le_mul_right _ c
          _ ≤ d * T ^ n + r := Nat.le_add_right _ _
      · rw [← c]
        have := i2 r hr (fun t ht => by
          have := hf t ht
          rw [yCn_step hr hd, ← c] at this
          rw [ySt2_step hk]
          omega)
        omega
      · exfalso
        have := yP_mono (sp := sp) (m := m) (a := d + 1) (b := yG sp m T k) c
        have e : yP sp m (d + 1) = yP sp m d + m / sp d := rfl
        unfold ySt2 at fd
        omega
theorem yW_dig {sp : Nat → Nat} {m T : Nat} : ∀ n k, k + n ≤ yP sp m T → ∀ i, i < n → yW sp m T n k / T ^ (n - 1 - i) % T = yG sp m T (k + i)
  | 0, _, _, i, hi => absurd hi (Nat.not_lt_zero _)
  | n + 1, k, h, i, hi => by
    have h1 := (yG_spec (sp := sp) (m := m) (T := T) (k := k) (by omega)).1
    have hl := yW_lt (sp := sp) (m := m) (T := T) n (k + 1) (by omega)
    show (yG sp m T k * T ^ n + yW sp m T n (k + 1)) / T ^ (n + 1 - 1 - i) % T = _
    cases i with
    | zero => rw [Nat.add_sub_cancel, Nat.sub_zero, ydig_top hl h1, Nat.add_zero]
    | succ i =>
      rw [ydig_low (by omega) (by omega), show n + 1 - 1 - (i + 1) = n - 1 - i by omega, yW_dig n (k + 1) (by omega) i (by omega)]
      congr 1
      omega
def yS (f : Nat → Nat) : Nat → Nat
  | 0 => 0
  | t + 1 => yS f t + f t
theorem yS_one {f h : Nat → Nat} {j T : Nat} (hj : j < T) (e : ∀ t, h t = f t + (if j = t then 1 else 0)) : ∀ n, n ≤ T → yS h n = yS f n + (if j < n then 1 else 0)
  | 0, _ => by rw [if_neg (Nat.not_lt_zero _)]; rfl
  | n + 1, hn => by
    show yS h n + h n = yS f n + f n + _
    rw [yS_one hj e n (by omega), e n]
    rcases Nat.lt_trichotomy j n with c | c | c
    · rw [if_pos c, if_neg (by omega), if_pos (by omega)]; omega
    · rw [if_neg (by omega), if_pos c, if_pos (by omega)]; omega
    · rw [if_neg (by omega), if_neg (by omega), if_neg (by omega)]; omega
theorem yCn_sum {T u : Nat} (hT : 0 < T) : ∀ n, yS (fun t => yCn T u t n) T = n
  | 0 => by
    have : ∀ k, yS (fun _ => 0) k = 0 := fun k => by induction k with
      | zero => rfl
      | succ k ih => show yS _ k + 0 = 0; rw [ih]
    exact this T
  | n + 1 => by
    rw [yS_one (f := fun t => yCn T u t n) (h := fun t => yCn T u t (n + 1)) (j := u / T ^ n % T) (Nat.mod_lt _ hT) (fun t => rfl) T (Nat.le_refl _), yCn_sum hT n, if_pos (Nat.mod_lt _ hT)]
theorem yS_le {f : Nat → Nat} {sp : Nat → Nat} {m : Nat} : ∀ {T}, (∀ t, t < T → f t ≤ m / sp t) → yS f T ≤ yP sp m T
  | 0, _ => Nat.le_refl _
  | T + 1, h => Nat.add_le_add (yS_le (fun t ht => h t (by omega))) (h T (by omega))
/-- in how many minutes a way is done -/
def yMt (sp : Nat → Nat) (T u n : Nat) : Nat → Nat
  | 0 => 0
  | t + 1 => max (yMt sp T u n t) (yCn T u t n * sp t)
theorem yMt_le {sp : Nat → Nat} {T u n m : Nat} : ∀ k, yMt sp T u n k ≤ m ↔ ∀ t, t < k → yCn T u t n * sp t ≤ m
  | 0 => ⟨fun _ t ht => absurd ht (Nat.not_lt_zero _), fun _ => Nat.zero_le _⟩
  | k + 1 => by
    show max (yMt sp T u n k) (yCn T u k n * sp k) ≤ m ↔ _
    rw [Nat.max_le, yMt_le k]
    constructor
    · rintro ⟨a, b⟩ t ht
      rcases Nat.lt_succ_iff_lt_or_eq.mp ht with q | rfl
      · exact a t q
      · exact b
    · intro a
      exact ⟨fun t ht => a t (by omega), a k (by omega)⟩
theorem yDeal {sp : Nat → Nat} {T n M b : Nat} (hT : 0 < T) (hsp : ∀ t, t < T → 0 < sp t) (hM : n ≤ yP sp M T) (hM2 : ∀ m, m < M → yP sp m T < n)
    (hb : b < T ^ n) (hb1 : ∀ u, u < T ^ n → yMt sp T b n T ≤ yMt sp T u n T) (hb2 : ∀ u, u < b → yMt sp T b n T < yMt sp T u n T) : yMt sp T b n T = M ∧ b = yW sp M T n 0 := by
  have cap : ∀ m u, yMt sp T u n T ≤ m ↔ ∀ t, t < T → yCn T u t n ≤ m / sp t := by
    intro m u
    rw [yMt_le]
    exact forall_congr' fun t => forall_congr' fun ht => (Nat.le_div_iff_mul_le (hsp t ht)).symm
  have low : ∀ u, M ≤ yMt sp T u n T := by
    intro u
    rcases Nat.lt_or_ge (yMt sp T u n T) M with q | q
    · have h1 := hM2 _ q
      have h2 := yS_le (f := fun t => yCn T u t n) (sp := sp) (m := yMt sp T u n T) ((cap _ u).mp (Nat.le_refl _))
      rw [yCn_sum hT] at h2
      omega
    · exact q
  obtain ⟨w1, w2⟩ := yW_best (sp := sp) (m := M) (T := T) n 0 (by omega)
  have st0 : ∀ t, ySt2 sp M 0 t = 0 := fun t => by unfold ySt2; rw [Nat.zero_sub, Nat.min_zero]
  have hW : yMt sp T (yW sp M T n 0) n T ≤ M := (cap _ _).mpr (fun t ht => by have := w1 t ht; rw [st0] at this; omega)
  have hl := yW_lt (sp := sp) (m := M) (T := T) n 0 (by omega)
  have eb : yMt sp T b n T = M := Nat.le_antisymm (Nat.le_trans (hb1 _ hl) hW) (low b)
  refine ⟨eb, Nat.le_antisymm ?_ (w2 b hb (fun t ht => by rw [st0, Nat.zero_add]; exact (cap M b).mp (Nat.le_of_eq eb) t ht))⟩
  rcases Nat.lt_or_ge (yW sp M T n 0) b with q | q
  · have := hb2 _ q
    omega
  · exact q
