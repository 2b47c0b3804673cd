/-! ROWS OF ROWS: twelve of ten -/
def zmO (c : ClassId) (h0 i : Nat) : Cell := arrV c 12 (fun j => if j < i then .ref (h0 + 1 + j) else .null)
def zmI (c : ClassId) : Cell := arrV c 10 (fun _ => .int 0)
/-- the state when i of the twelve stand -/
def zmF (s : State) (c k : ClassId) : Nat → State
  | 0 => s.pushCell (zmO c s.heap.size 0)
  | i + 1 => ((zmF s c k i).pushCell (zmI k)).setCell s.heap.size (zmO c s.heap.size (i + 1))
theorem zmO_step {c : ClassId} {h0 i : Nat} : (zmO c h0 i).setSlot i (.ref (h0 + 1 + i)) = zmO c h0 (i + 1) := by
  unfold zmO
  refine zarr_st (fun j => ?_)
  unfold updV
  by_cases e : j = i
  · subst e; rw [if_pos rfl, if_pos (Nat.lt_succ_self _)]
  · rw [if_neg e]
    show (if j < i then Value.ref (h0 + 1 + j) else Value.null) = _
    by_cases h : j < i
    · rw [if_pos h, if_pos (by omega)]
    · rw [if_neg h, if_neg (by omega)]
theorem zmO_size {c : ClassId} {h0 i : Nat} : (zmO c h0 i).slots.size = 12 := arrV_size _ _ _
theorem zmI_size {c : ClassId} : (zmI c).slots.size = 10 := arrV_size _ _ _
theorem zmF_ok {s : State} {c k : ClassId} : ∀ i, (zmF s c k i).heap.size = s.heap.size + 1 + i ∧ (zmF s c k i).heap[s.heap.size]? = some (zmO c s.heap.size i) ∧ (∀ q : Nat, q < s.heap.size → (zmF s c k i).heap[q]? = s.heap[q]?) ∧
    (∀ j, j < i → (zmF s c k i).heap[s.heap.size + 1 + j]? = some (zmI k)) ∧ (zmF s c k i).vm = s.vm ∧ (zmF s c k i).slotsUsed = s.slotsUsed + 12 + i * 10
  | 0 => by
    refine ⟨by simp [zmF], by simp [zmF], fun q hq => ?_, fun j hj => absurd hj (Nat.not_lt_zero _), rfl, by simp [zmF, zmO_size]⟩
    show (s.pushCell _).heap[q]? = _
    exact State.heap_pushCell_of_lt _ _ hq
  | i + 1 => by
    obtain ⟨a1, a2, a3, a4, a5, a6⟩ := zmF_ok (s := s) (c := c) (k := k) i
    have b1 : ((zmF s c k i).pushCell (zmI k)).heap.size = s.heap.size + 1 + i + 1 := by rw [State.heap_size_pushCell, a1]
    have low : ∀ q : Nat, q < s.heap.size + 1 + i → ((zmF s c k i).pushCell (zmI k)).heap[q]? = (zmF s c k i).heap[q]? := fun q hq => State.heap_pushCell_of_lt _ _ (by rw [a1]; exact hq)
    have ne : ∀ q : Nat, q ≠ s.heap.size → (zmF s c k (i + 1)).heap[q]? = ((zmF s c k i).pushCell (zmI k)).heap[q]? := fun q hq => heapAt_setCell_ne _ (Ne.symm hq)
    refine ⟨?_, ?_, fun q hq => ?_, fun j hj => ?_, ?_, ?_⟩
    · show (((zmF s c k i).pushCell (zmI k)).setCell _ _).heap.size = _
      rw [size_setCell, b1]; omega
    · show (((zmF s c k i).pushCell (zmI k)).setCell s.heap.size (zmO c s.heap.size (i + 1))).heap[s.heap.size]? = _
      have hlt : s.heap.size < s.heap.size + 1 + i + 1 := by omega
      rw [← b1] at hlt
      exact heapAt_setCell_self _ hlt
    · rw [ne q (by omega), low q (by omega)]; exact a3 q hq
    · rw [ne _ (by omega)]
      by_cases e : j = i
      · subst e
        have := State.heap_pushCell_size (zmF s c k j) (zmI k)
        rw [a1] at this
        exact this
      · rw [low _ (by omega)]; exact a4 j (by omega)
    · show (zmF s c k i).vm = _; exact a5
    · have : (zmF s c k (i + 1)).slotsUsed = (zmF s c k i).slotsUsed + 10 := by simp [zmF, zmI_size]
      rw [this, a6]; omega
section S95
variable {p : Program} {l : Launch} {e : Env} {R : Room} {s : State} {m : MethodId} {args : Array Value} {below : List Frame} {meth : Method} {c : Code} {T : State} {locs : List Loc} {cells slots : Nat}
theorem zmF_stand (X : Stand p l e R s m args below meth c T locs cells slots) (cA k : ClassId) : ∀ i, ∃ J : List Loc, (∀ q ∈ J, q.base = T.heap.size) ∧ Stand p l e R s m args below meth c (zmF T cA k i) (locs ++ J) (cells + 1 + i) (slots + 12 + i * 10)
  | 0 => by
    have h := X.pushed (zmO cA T.heap.size 0)
    rw [zmO_size] at h
    refine ⟨[], fun q hq => absurd hq List.not_mem_nil, ?_⟩
    rw [List.append_nil]
    exact h
  | i + 1 => by
    obtain ⟨J, hJ, Xi⟩ := zmF_stand X cA k i
    obtain ⟨a1, a2, -⟩ := zmF_ok (s := T) (c := cA) (k := k) i
    have hlt : T.heap.size < T.heap.size + 1 + i := by omega
    rw [← a1] at hlt
    have hc : ((zmF T cA k i).pushCell (zmI k)).heap[T.heap.size]? = some (zmO cA T.heap.size i) := (State.heap_pushCell_of_lt _ _ hlt).trans a2
    have h := (Xi.pushed (zmI k)).stored hc i (.ref (T.heap.size + 1 + i))
    rw [zmI_size, zmO_step] at h
    refine ⟨J ++ [⟨T.heap.size, i⟩], fun q hq => ?_, ?_⟩
    · rcases List.mem_append.mp hq with hq | hq
      · exact hJ q hq
      · rw [List.mem_singleton.mp hq]
    · rw [← List.append_assoc, show slots + 12 + (i + 1) * 10 = slots + 12 + i * 10 + 10 by omega]
      exact h
theorem zmNA {E : CtlPost} {e : Env} {d : Bool} {acts : List Action} {s : State} {cA comp : ClassId} {k : Class} {ty : FieldType} {len : Nat} {v : Value} (hk : s.vm.classes[cA]? = some k) (hkind : k.kind = .array comp ty) (hl : len ≤ e.platform.arrayLengthLimit) (hb : len * componentBytes ty ≤ e.platform.maxHeapBytes) (hf : fits ty v = true) (hv : v.isDefault = true)
    (h1 : s.heap.size < e.platform.maxCells) (h2 : s.slotsUsed + len ≤ e.platform.maxSlots) {Q : Addr → Pre} (hq : Q s.heap.size d acts (s.pushCell (arrV cA len (fun _ => v)))) : wp (Jvm.newArray cA len v) Q E e d acts s := by
  rw [← arrV_new] at hq
  have h3 : ∀ i x, (Array.replicate len v)[i]? = some x → s.fitsSlot cA .none i x = true := by
    intro i x hx
    rw [Array.getElem?_replicate] at hx
    split at hx
    · cases hx; simp [State.fitsSlot, State.slotType?, hk, hkind, hf]
    · cases hx
  have h4 : allocActs (Array.replicate len v) s.heap.size acts = acts := by
    unfold allocActs
    rw [if_pos (by rw [Array.all_replicate]; split <;> simp [hv])]
  simp only [Jvm.newArray, Jvm.arrayFits, wp_bind', W.ask, W.ite, wp_pure', W.theClass, hk, hkind, W.alloc, W.stop, Option.some.injEq, exists_eq_left', Array.size_replicate, h4]
  rw [if_neg (by omega), if_neg (by omega), if_neg (by omega)]
  exact ⟨h1, h2, h3, hq⟩
theorem zmOdd {E : CtlPost} {e : Env} {d : Bool} {acts : List Action} {s : State} {cA comp cc : ClassId} {kA kC : Class} (hk : s.vm.classes[cA]? = some kA) (hkind : kA.kind = .array comp (.array .int)) (hkc : s.vm.classes[comp]? = some kC) (hkindc : kC.kind = .array cc .int)
    (hlim : 12 ≤ e.platform.arrayLengthLimit ∧ 100 ≤ e.platform.maxHeapBytes) (h1 : s.heap.size + 13 ≤ e.platform.maxCells) (h2 : s.slotsUsed + 132 ≤ e.platform.maxSlots) {Q : Addr → Pre} (hq : ∀ d' acts', Q s.heap.size d' acts' (zmF s cA comp 12)) :
    wp (multianewarray.make cA [nI 12, nI 10]) Q E e d acts s := by
  have n12 : ¬ nI 12 < 0 := by decide
  have n10 : ¬ nI 10 < 0 := by decide
  have c12 : (nI 12).toNatClampNeg = 12 := by decide
  have c10 : (nI 10).toNatClampNeg = 10 := by decide
  have z12 : ¬ (nI 12 == 0) = true := by decide
  have cb : componentBytes (.array .int) = 4 := rfl
  have cb2 : componentBytes .int = 4 := rfl
  rw [multianewarray.make]
  simp only [wp_bind', W.ite, wp_pure', W.theClass, hk, hkind, Option.some.injEq, exists_eq_left', n12, if_false, c12]
  refine zmNA hk hkind (by omega) (by rw [cb]; omega) rfl rfl (by omega) (by omega) ?_
  rw [if_neg z12]
  have e0 : s.pushCell (arrV cA 12 fun _ => Value.null) = zmF s cA comp 0 := congrArg s.pushCell (congrArg (arrV cA 12) (funext fun j => (if_neg (Nat.not_lt_zero j)).symm))
  rw [e0, wp_bind', Std.Legacy.Range.forIn_eq_forIn_range']
  have hsz : ([:12] : Std.Legacy.Range).size = 12 := by decide
  rw [hsz]
  refine wp_forIn_inv (fun rest s' => ∃ i, i ≤ 12 ∧ rest = List.range' i (12 - i) ∧ s' = zmF s cA comp i) _ _ ⟨0, by decide, rfl, rfl⟩ ?_ ?_
  · rintro x rest s' d' acts' Q' ⟨i, hi, hr, rfl⟩ next
    have hlt : i < 12 := by
      refine Nat.lt_of_not_le fun z => ?_
      rw [show 12 - i = 0 by omega] at hr
      cases hr
    rw [show 12 - i = (12 - (i + 1)) + 1 by omega, List.range'_succ] at hr
    obtain ⟨rfl, hr2⟩ := List.cons.inj hr
    obtain ⟨a1, a2, a3, a4, a5, a6⟩ := zmF_ok (s := s) (c := cA) (k := comp) x
    have hkc2 : (zmF s cA comp x).vm.classes[comp]? = some kC := by rw [a5]; exact hkc
    rw [multianewarray.make]
    simp only [wp_bind', W.ite, wp_pure', W.theClass, hkc2, hkindc, Option.some.injEq, exists_eq_left', n10, if_false, c10]
    refine zmNA hkc2 hkindc (by omega) (by rw [cb2]; omega) rfl rfl (by rw [a1]; omega) (by rw [a6]; omega) ?_
    have hlow : s.heap.size < s.heap.size + 1 + x := by omega
    rw [← a1] at hlow
    simp only [wp_bind', W.writeLoc, wp_pure']
    refine ⟨zmO cA s.heap.size x, (State.heap_pushCell_of_lt _ _ hlow).trans a2, (fun z => by cases z), by rw [zmO_size]; exact hlt, ?_, next _ _ _ ⟨x + 1, hlt, hr2, ?_⟩⟩
    · show State.fitsSlot _ cA .none x _ = true
      simp [State.fitsSlot, State.slotType?, a5, hk, hkind, fits]
    · rw [a1]
      show State.setCell _ _ ((zmO cA s.heap.size x).setSlot x (.ref (s.heap.size + 1 + x))) = _
      rw [zmO_step]; rfl
  · rintro s' d' acts' ⟨i, hi, hr, rfl⟩
    have e12 : i = 12 := by
      refine Nat.le_antisymm hi (Nat.le_of_not_lt fun z => ?_)
      rw [show 12 - i = (12 - (i + 1)) + 1 by omega, List.range'_succ] at hr
      cases hr
    subst e12
    simp only [wp_pure']
    exact hq _ _
end S95
