theorem zGood {ws : List Cond} (h : ∀ w ∈ ws, w ∈ zWT) : GoodIn zWT ws := fun w hw => ⟨h w hw, good_of_word (List.mem_filter.mp (h w hw)).2⟩
theorem zSt_same {g : zG} {u U : State} (h : u.vm = U.vm) (hs : zSt g u) : zSt g U := by
  have hA : u.vm.Alike U.vm := h ▸ Vm.Alike.refl u.vm
  exact ⟨hs.1.moved hA, fun q hq => va_Nw.same rfl h (hs.2.1 q hq), hs.2.2.1.moved hA, zAOA_moved hA hs.2.2.2.1, zTT_moved hA hs.2.2.2.2⟩
def zCtx (g : zG) (d n0 n1 : Nat) (M : zM) (p : Program) (R : Room) (s : State) (m : MethodId) (args : Array Value) (meth : Method) (c : Code) : Prop :=
  p.tables.exec = Jvm.exec ∧ c.code = zmc M ∧ c.maxLocals = zmn M ∧ meth.sig.returnType = zmr M ∧ meth.locks = false ∧ meth.name = (zmy M).name ∧ s.vm.findClass (zmo M) = some m.cls ∧ (∀ x ∈ zWT, x.before args s = true) ∧ zSt g s ∧ (d ≤ R.frames ∧ 64 * d ≤ R.locals) ∧ n1 - n0 ≤ R.cells ∧ zS n1 - zS n0 ≤ R.slots
def zQc (g : zG) (n1 : Nat) (Q : Option Value → zW → Prop) : Array Value → State → Outcome → State → Prop := fun _ _ o t => ∃ (v : Option Value) (w : zW), o = .returned (v.map (zrv g)) ∧ w.2.2.2 = n1 ∧ Q v w ∧ zRep g w t.heap
def zlv (g : zG) (lv : List (Nat × Value)) : List (Nat × Value) := lv.map (fun q => (q.1, zrv g q.2))
/-- FROM HERE (a method's place, locals, stack, the world as numbers) THE METHOD COMES TO AN END WITH Q -/
def zAW (g : zG) (l : Launch) (d n0 n1 : Nat) (M : zM) (w : zW) (pc : Nat) (lv : List (Nat × Value)) (st : List Value) (Q : Option Value → zW → Prop) : Prop :=
  ∀ (p : Program) (e : Env) (R : Room) (s : State) (m : MethodId) (args : Array Value) (below : List Frame) (meth : Method) (c : Code) (H : Heap) (locs : List Loc) (ls : Array Slot),
    zCtx g d n0 n1 M p R s m args meth c → zRep g w H → (∀ q ∈ locs, zgB g ≤ q.base) → lv_has ls (zmn M) (zlv g lv) →
    W p l e R s m args below meth c H locs (w.2.2.2 - n0) (zS w.2.2.2 - zS n0) (MQ below (zQc g n1 Q) args s (n1 - n0) (zS n1 - zS n0) (fun q => zgB g ≤ q)) (F0 m pc ls (st.map (zrv g)))
/-- A METHOD'S CONTRACT, for one run of it -/
def zSp (g : zG) (l : Launch) (d n1 : Nat) (M : zM) (vals : List Value) (w : zW) (Q : Option Value → zW → Prop) : Prop :=
  Met l (zmy M) (.code (zmy M) (zmc M) (zmn M) (zmr M) :: zWT) ({ frames := d, cells := n1 - w.2.2.2, slots := zS n1 - zS w.2.2.2, locals := 64 * d }) (va_Pc (vals.map (zrv g)) (fun U => zRep g w U.heap ∧ zSt g U)) (zQc g n1 Q) (n1 - w.2.2.2) (zS n1 - zS w.2.2.2) (fun q => zgB g ≤ q)
def zlk : List (Nat × Value) → Nat → Option Value
  | [], _ => none
  | q :: r, i => cond (Nat.beq q.1 i) (some q.2) (zlk r i)
theorem zlk_mem {lv : List (Nat × Value)} {i : Nat} {v : Value} (h : zlk lv i = some v) : (i, v) ∈ lv := by
  induction lv with
  | nil => cases h
  | cons q r ih =>
    unfold zlk at h
    cases hb : Nat.beq q.1 i with
    | true =>
      rw [hb] at h
      have e : q.1 = i := Nat.eq_of_beq_eq_true hb
      cases h
      rw [← e]
      exact List.mem_cons_self
    | false =>
      rw [hb] at h
      exact List.mem_cons_of_mem _ (ih h)
theorem zlk_at {g : zG} {ls : Array Slot} {n : Nat} {lv : List (Nat × Value)} {i : Nat} {v : Value} (hl : lv_has ls n (zlv g lv)) (h : zlk lv i = some v) : ls[i]? = some (.val (zrv g v)) :=
  hl.2.2 (i, zrv g v) (List.mem_map.mpr ⟨(i, v), zlk_mem h, rfl⟩)
def zfl : List (Nat × Value) → Nat → List (Nat × Value)
  | [], _ => []
  | q :: r, i => cond (Nat.beq q.1 i) (zfl r i) (cond (Nat.beq (q.1 + 1) i && Nat.beq q.2.category 2) (zfl r i) (q :: zfl r i))
def zfl2 : List (Nat × Value) → Nat → List (Nat × Value)
  | [], _ => []
  | q :: r, i => cond (Nat.beq q.1 i) (zfl2 r i) (cond (Nat.beq q.1 (i + 1)) (zfl2 r i) (cond (Nat.beq (q.1 + 1) i && Nat.beq q.2.category 2) (zfl2 r i) (q :: zfl2 r i)))
theorem zbeq (a b : Nat) : (a == b) = Nat.beq a b := by
  cases h : Nat.beq a b with
  | true => rw [Nat.eq_of_beq_eq_true h]; simp
  | false => simp [Nat.ne_of_beq_eq_false h]
theorem zfl_eq (g : zG) (i : Nat) : ∀ lv : List (Nat × Value), (zlv g lv).filter (fun q => !(q.1 == i) && !(q.1 + 1 == i && q.2.category == 2)) = zlv g (zfl lv i)
  | [] => rfl
  | q :: r => by
    have ih := zfl_eq g i r
    unfold zlv at ih ⊢
    rw [List.map_cons, List.filter_cons, ih]
    simp only [zrv_cat, zbeq, zfl]
    cases Nat.beq q.1 i <;> cases (Nat.beq (q.1 + 1) i) <;> cases (Nat.beq q.2.category 2) <;> rfl
theorem zfl2_eq (g : zG) (i : Nat) : ∀ lv : List (Nat × Value), (zlv g lv).filter (fun q => !(q.1 == i) && (!(q.1 == i + 1) && !(q.1 + 1 == i && q.2.category == 2))) = zlv g (zfl2 lv i)
  | [] => rfl
  | q :: r => by
    have ih := zfl2_eq g i r
    unfold zlv at ih ⊢
    rw [List.map_cons, List.filter_cons, ih]
    simp only [zrv_cat, zbeq, zfl2]
    cases Nat.beq q.1 i <;> cases Nat.beq q.1 (i + 1) <;> cases (Nat.beq (q.1 + 1) i) <;> cases (Nat.beq q.2.category 2) <;> rfl
theorem zlv_args (g : zG) : ∀ (i : Nat) (vs : List Value), zlv g (lv_args i vs) = lv_args i (vs.map (zrv g))
  | _, [] => rfl
  | i, v :: vs => by
    show (i, zrv g v) :: zlv g (lv_args (if v.category = 2 then i + 2 else i + 1) vs) = (i, zrv g v) :: lv_args (if (zrv g v).category = 2 then i + 2 else i + 1) (vs.map (zrv g))
    rw [zrv_cat, zlv_args g _ vs]
theorem zslots (g : zG) (vs : List Value) : (lg_sl (vs.map (zrv g))).length = (lg_sl vs).length := by
  induction vs with
  | nil => rfl
  | cons v vs ih =>
    simp only [lg_sl, List.map_cons, List.flatMap_cons, List.length_append] at ih ⊢
    rw [ih]
    congr 1
    cases v <;> rfl
theorem zSp_of {g : zG} {l : Launch} {d n1 n : Nat} {M : zM} {vals : List Value} {lv : List (Nat × Value)} {w : zW} {Q : Option Value → zW → Prop} (hM : zMk M n) (hlv : lv_args 0 vals = lv) (hn : (lg_sl vals).length ≤ zmn M)
    (k : zAW g l d w.2.2.2 n1 M w 0 lv [] Q) : zSp g l d n1 M vals w Q := by
  subst hlv
  refine Met.ofW (cc := zmc M) (maxL := zmn M) (ret := zmr M) hM.2.2.1 rfl ?_
  intro p e s m args below meth c s₁ B hml hv
  obtain ⟨rfl, hR, hSt⟩ := hv
  have hts := atoms_spec (ws := .code (zmy M) (zmc M) (zmn M) (zmr M) :: zWT) B.pre
  have hl := lv_entry (vals.map (zrv g)) (n := zmn M) (by rw [zslots]; exact hn)
  rw [lg_entry_eq]
  generalize (lg_sl (vals.map (zrv g)) ++ List.replicate (zmn M - (lg_sl (vals.map (zrv g))).length) Slot.unset).toArray = ls at hl ⊢
  rw [← zlv_args] at hl
  have h := k p e ({ frames := d, cells := n1 - w.2.2.2, slots := zS n1 - zS w.2.2.2, locals := 64 * d } : Room) s m (vals.map (zrv g)).toArray below meth c s.heap [] ls ⟨B.exec, B.bytes, hml, B.returns, B.notSynchronized, (name_of_methodNamed B.named B.method).1, by rw [hM.2.2.2.2.2]; exact findClass_of_methodNamed B.named, fun x hx => hts x (List.mem_cons_of_mem _ hx), hSt, ⟨Nat.le_refl _, Nat.le_refl _⟩, Nat.le_refl _, Nat.le_refl _⟩ hR (fun q hq => by cases hq) hl
  rw [Nat.sub_self, Nat.sub_self] at h
  exact h

section ZR
variable {g : zG} {l : Launch} {d n0 n1 : Nat} {M : zM} {w : zW} {I : Nat → Nat → Int32} {L : Nat → Nat → Int64} {R : Nat → Nat → Option Nat} {n pc q : Nat} {lv : List (Nat × Value)} {st : List Value} {Q : Option Value → zW → Prop}
theorem zIconst {n : Int} {v : Int32} (hd : decode (zmc M) pc = .ok (.iconst n, 1)) (hv : Int32.ofInt n = v) (hq : q = pc + 1) (k : zAW g l d n0 n1 M w q lv (.int v :: st) Q) : zAW g l d n0 n1 M w pc lv (st) Q := by
  subst hq
  intro p e R s m args below meth c H locs ls C hR hL hl
  exact lv_iconst C.1 C.2.1 hd hv (k p e R s m args below meth c H locs ls C hR hL hl)
theorem zBipush {n : Int} {v : Int32} (hd : decode (zmc M) pc = .ok (.bipush n, 2)) (hv : (Int8.ofInt n).toInt32 = v) (hq : q = pc + 2) (k : zAW g l d n0 n1 M w q lv (.int v :: st) Q) : zAW g l d n0 n1 M w pc lv (st) Q := by
  subst hq
  intro p e R s m args below meth c H locs ls C hR hL hl
  exact lv_bipush C.1 C.2.1 hd hv (k p e R s m args below meth c H locs ls C hR hL hl)
theorem zSipush {n : Int} {v : Int32} (hd : decode (zmc M) pc = .ok (.sipush n, 3)) (hv : (Int16.ofInt n).toInt32 = v) (hq : q = pc + 3) (k : zAW g l d n0 n1 M w q lv (.int v :: st) Q) : zAW g l d n0 n1 M w pc lv (st) Q := by
  subst hq
  intro p e R s m args below meth c H locs ls C hR hL hl
  exact lv_sipush C.1 C.2.1 hd hv (k p e R s m args below meth c H locs ls C hR hL hl)
theorem zLconst {n : Fin 2} {v : Int64} (hd : decode (zmc M) pc = .ok (.lconst n, 1)) (hv : Int64.ofNat (n : Nat) = v) (hq : q = pc + 1) (k : zAW g l d n0 n1 M w q lv (.long v :: st) Q) : zAW g l d n0 n1 M w pc lv (st) Q := by
  subst hq
  intro p e R s m args below meth c H locs ls C hR hL hl
  exact lv_lconst C.1 C.2.1 hd hv (k p e R s m args below meth c H locs ls C hR hL hl)
theorem zNull  (hd : decode (zmc M) pc = .ok (.aconst_null, 1))  (hq : q = pc + 1) (k : zAW g l d n0 n1 M w q lv (.null :: st) Q) : zAW g l d n0 n1 M w pc lv (st) Q := by
  subst hq
  intro p e R s m args below meth c H locs ls C hR hL hl
  exact lv_null C.1 C.2.1 hd  (k p e R s m args below meth c H locs ls C hR hL hl)
theorem zIadd {x y : Int32} (hd : decode (zmc M) pc = .ok (.iadd, 1))  (hq : q = pc + 1) (k : zAW g l d n0 n1 M w q lv (.int (x + y) :: st) Q) : zAW g l d n0 n1 M w pc lv (.int y :: .int x :: st) Q := by
  subst hq
  intro p e R s m args below meth c H locs ls C hR hL hl
  exact lv_iadd C.1 C.2.1 hd  (k p e R s m args below meth c H locs ls C hR hL hl)
theorem zIsub {x y : Int32} (hd : decode (zmc M) pc = .ok (.isub, 1))  (hq : q = pc + 1) (k : zAW g l d n0 n1 M w q lv (.int (x - y) :: st) Q) : zAW g l d n0 n1 M w pc lv (.int y :: .int x :: st) Q := by
  subst hq
  intro p e R s m args below meth c H locs ls C hR hL hl
  exact lv_isub C.1 C.2.1 hd  (k p e R s m args below meth c H locs ls C hR hL hl)
theorem zImul {x y : Int32} (hd : decode (zmc M) pc = .ok (.imul, 1))  (hq : q = pc + 1) (k : zAW g l d n0 n1 M w q lv (.int (x * y) :: st) Q) : zAW g l d n0 n1 M w pc lv (.int y :: .int x :: st) Q := by
  subst hq
  intro p e R s m args below meth c H locs ls C hR hL hl
  exact lv_imul C.1 C.2.1 hd  (k p e R s m args below meth c H locs ls C hR hL hl)
theorem zIand {x y : Int32} (hd : decode (zmc M) pc = .ok (.iand, 1))  (hq : q = pc + 1) (k : zAW g l d n0 n1 M w q lv (.int (x &&& y) :: st) Q) : zAW g l d n0 n1 M w pc lv (.int y :: .int x :: st) Q := by
  subst hq
  intro p e R s m args below meth c H locs ls C hR hL hl
  exact lv_iand C.1 C.2.1 hd  (k p e R s m args below meth c H locs ls C hR hL hl)
theorem zIor {x y : Int32} (hd : decode (zmc M) pc = .ok (.ior, 1))  (hq : q = pc + 1) (k : zAW g l d n0 n1 M w q lv (.int (x ||| y) :: st) Q) : zAW g l d n0 n1 M w pc lv (.int y :: .int x :: st) Q := by
  subst hq
  intro p e R s m args below meth c H locs ls C hR hL hl
  exact lv_ior C.1 C.2.1 hd  (k p e R s m args below meth c H locs ls C hR hL hl)
theorem zIxor {x y : Int32} (hd : decode (zmc M) pc = .ok (.ixor, 1))  (hq : q = pc + 1) (k : zAW g l d n0 n1 M w q lv (.int (x ^^^ y) :: st) Q) : zAW g l d n0 n1 M w pc lv (.int y :: .int x :: st) Q := by
  subst hq
  intro p e R s m args below meth c H locs ls C hR hL hl
  exact lv_ixor C.1 C.2.1 hd  (k p e R s m args below meth c H locs ls C hR hL hl)
theorem zIshl {x y : Int32} (hd : decode (zmc M) pc = .ok (.ishl, 1))  (hq : q = pc + 1) (k : zAW g l d n0 n1 M w q lv (.int (x <<< (y &&& 31)) :: st) Q) : zAW g l d n0 n1 M w pc lv (.int y :: .int x :: st) Q := by
  subst hq
  intro p e R s m args below meth c H locs ls C hR hL hl
  exact lv_ishl C.1 C.2.1 hd  (k p e R s m args below meth c H locs ls C hR hL hl)
theorem zIshr {x y : Int32} (hd : decode (zmc M) pc = .ok (.ishr, 1))  (hq : q = pc + 1) (k : zAW g l d n0 n1 M w q lv (.int (x >>> (y &&& 31)) :: st) Q) : zAW g l d n0 n1 M w pc lv (.int y :: .int x :: st) Q := by
  subst hq
  intro p e R s m args below meth c H locs ls C hR hL hl
  exact lv_ishr C.1 C.2.1 hd  (k p e R s m args below meth c H locs ls C hR hL hl)
theorem zLadd {x y : Int64} (hd : decode (zmc M) pc = .ok (.ladd, 1))  (hq : q = pc + 1) (k : zAW g l d n0 n1 M w q lv (.long (x + y) :: st) Q) : zAW g l d n0 n1 M w pc lv (.long y :: .long x :: st) Q := by
  subst hq
  intro p e R s m args below meth c H locs ls C hR hL hl
  exact lv_ladd C.1 C.2.1 hd  (k p e R s m args below meth c H locs ls C hR hL hl)
theorem zLmul {x y : Int64} (hd : decode (zmc M) pc = .ok (.lmul, 1))  (hq : q = pc + 1) (k : zAW g l d n0 n1 M w q lv (.long (x * y) :: st) Q) : zAW g l d n0 n1 M w pc lv (.long y :: .long x :: st) Q := by
  subst hq
  intro p e R s m args below meth c H locs ls C hR hL hl
  exact lv_lmul C.1 C.2.1 hd  (k p e R s m args below meth c H locs ls C hR hL hl)
theorem zLand {x y : Int64} (hd : decode (zmc M) pc = .ok (.land, 1))  (hq : q = pc + 1) (k : zAW g l d n0 n1 M w q lv (.long (x &&& y) :: st) Q) : zAW g l d n0 n1 M w pc lv (.long y :: .long x :: st) Q := by
  subst hq
  intro p e R s m args below meth c H locs ls C hR hL hl
  exact lv_land C.1 C.2.1 hd  (k p e R s m args below meth c H locs ls C hR hL hl)
theorem zLor {x y : Int64} (hd : decode (zmc M) pc = .ok (.lor, 1))  (hq : q = pc + 1) (k : zAW g l d n0 n1 M w q lv (.long (x ||| y) :: st) Q) : zAW g l d n0 n1 M w pc lv (.long y :: .long x :: st) Q := by
  subst hq
  intro p e R s m args below meth c H locs ls C hR hL hl
  exact lv_lor C.1 C.2.1 hd  (k p e R s m args below meth c H locs ls C hR hL hl)
theorem zIneg {x : Int32} (hd : decode (zmc M) pc = .ok (.ineg, 1))  (hq : q = pc + 1) (k : zAW g l d n0 n1 M w q lv (.int (-x) :: st) Q) : zAW g l d n0 n1 M w pc lv (.int x :: st) Q := by
  subst hq
  intro p e R s m args below meth c H locs ls C hR hL hl
  exact lv_ineg C.1 C.2.1 hd  (k p e R s m args below meth c H locs ls C hR hL hl)
theorem zIdiv {x y : Int32} (hd : decode (zmc M) pc = .ok (.idiv, 1)) (hne : ¬ y = 0) (hq : q = pc + 1) (k : zAW g l d n0 n1 M w q lv (.int (x / y) :: st) Q) : zAW g l d n0 n1 M w pc lv (.int y :: .int x :: st) Q := by
  subst hq
  intro p e R s m args below meth c H locs ls C hR hL hl
  exact lv_idiv C.1 C.2.1 hd hne (k p e R s m args below meth c H locs ls C hR hL hl)
theorem zIrem {x y : Int32} (hd : decode (zmc M) pc = .ok (.irem, 1)) (hne : ¬ y = 0) (hq : q = pc + 1) (k : zAW g l d n0 n1 M w q lv (.int (x - x / y * y) :: st) Q) : zAW g l d n0 n1 M w pc lv (.int y :: .int x :: st) Q := by
  subst hq
  intro p e R s m args below meth c H locs ls C hR hL hl
  exact lv_irem C.1 C.2.1 hd hne (k p e R s m args below meth c H locs ls C hR hL hl)
theorem zLdiv {x y : Int64} (hd : decode (zmc M) pc = .ok (.ldiv, 1)) (hne : ¬ y = 0) (hq : q = pc + 1) (k : zAW g l d n0 n1 M w q lv (.long (x / y) :: st) Q) : zAW g l d n0 n1 M w pc lv (.long y :: .long x :: st) Q := by
  subst hq
  intro p e R s m args below meth c H locs ls C hR hL hl
  exact lv_ldiv C.1 C.2.1 hd hne (k p e R s m args below meth c H locs ls C hR hL hl)
theorem zLrem {x y : Int64} (hd : decode (zmc M) pc = .ok (.lrem, 1)) (hne : ¬ y = 0) (hq : q = pc + 1) (k : zAW g l d n0 n1 M w q lv (.long (x - x / y * y) :: st) Q) : zAW g l d n0 n1 M w pc lv (.long y :: .long x :: st) Q := by
  subst hq
  intro p e R s m args below meth c H locs ls C hR hL hl
  exact lv_lrem C.1 C.2.1 hd hne (k p e R s m args below meth c H locs ls C hR hL hl)
theorem zIushr {x y : Int32} (hd : decode (zmc M) pc = .ok (.iushr, 1))  (hq : q = pc + 1) (k : zAW g l d n0 n1 M w q lv (.int ((x.toUInt32 >>> (y.toUInt32 &&& Int32.toUInt32 31)).toInt32) :: st) Q) : zAW g l d n0 n1 M w pc lv (.int y :: .int x :: st) Q := by
  subst hq
  intro p e R s m args below meth c H locs ls C hR hL hl
  exact lv_iushr C.1 C.2.1 hd rfl (k p e R s m args below meth c H locs ls C hR hL hl)
theorem zLshl {x : Int64} {y : Int32} (hd : decode (zmc M) pc = .ok (.lshl, 1))  (hq : q = pc + 1) (k : zAW g l d n0 n1 M w q lv (.long (x <<< (y.toInt64 &&& 63)) :: st) Q) : zAW g l d n0 n1 M w pc lv (.int y :: .long x :: st) Q := by
  subst hq
  intro p e R s m args below meth c H locs ls C hR hL hl
  exact lv_lshl C.1 C.2.1 hd rfl (k p e R s m args below meth c H locs ls C hR hL hl)
theorem zI2l {x : Int32} (hd : decode (zmc M) pc = .ok (.i2l, 1))  (hq : q = pc + 1) (k : zAW g l d n0 n1 M w q lv (.long x.toInt64 :: st) Q) : zAW g l d n0 n1 M w pc lv (.int x :: st) Q := by
  subst hq
  intro p e R s m args below meth c H locs ls C hR hL hl
  exact lv_i2l C.1 C.2.1 hd rfl (k p e R s m args below meth c H locs ls C hR hL hl)
theorem zL2i {x : Int64} (hd : decode (zmc M) pc = .ok (.l2i, 1))  (hq : q = pc + 1) (k : zAW g l d n0 n1 M w q lv (.int x.toInt32 :: st) Q) : zAW g l d n0 n1 M w pc lv (.long x :: st) Q := by
  subst hq
  intro p e R s m args below meth c H locs ls C hR hL hl
  exact lv_l2i C.1 C.2.1 hd rfl (k p e R s m args below meth c H locs ls C hR hL hl)
theorem zI2b {x : Int32} (hd : decode (zmc M) pc = .ok (.i2b, 1))  (hq : q = pc + 1) (k : zAW g l d n0 n1 M w q lv (.int x.toInt8.toInt32 :: st) Q) : zAW g l d n0 n1 M w pc lv (.int x :: st) Q := by
  subst hq
  intro p e R s m args below meth c H locs ls C hR hL hl
  exact lv_i2b C.1 C.2.1 hd rfl (k p e R s m args below meth c H locs ls C hR hL hl)
theorem zI2s {x : Int32} (hd : decode (zmc M) pc = .ok (.i2s, 1))  (hq : q = pc + 1) (k : zAW g l d n0 n1 M w q lv (.int x.toInt16.toInt32 :: st) Q) : zAW g l d n0 n1 M w pc lv (.int x :: st) Q := by
  subst hq
  intro p e R s m args below meth c H locs ls C hR hL hl
  exact lv_i2s C.1 C.2.1 hd rfl (k p e R s m args below meth c H locs ls C hR hL hl)
theorem zLcmp {x y : Int64} (hd : decode (zmc M) pc = .ok (.lcmp, 1))  (hq : q = pc + 1) (k : zAW g l d n0 n1 M w q lv (.int (lg_cmp x y) :: st) Q) : zAW g l d n0 n1 M w pc lv (.long y :: .long x :: st) Q := by
  subst hq
  intro p e R s m args below meth c H locs ls C hR hL hl
  exact W.lcmp C.1 C.2.1 hd  (k p e R s m args below meth c H locs ls C hR hL hl)
theorem zDup {v : Value} (hd : decode (zmc M) pc = .ok (.dup, 1)) (hc : v.category = 1) (hq : q = pc + 1) (k : zAW g l d n0 n1 M w q lv (v :: v :: st) Q) : zAW g l d n0 n1 M w pc lv (v :: st) Q := by
  subst hq
  intro p e R s m args below meth c H locs ls C hR hL hl
  exact lv_dup C.1 C.2.1 hd (by rw [zrv_cat]; exact hc) (k p e R s m args below meth c H locs ls C hR hL hl)
theorem zPop {v : Value} (hd : decode (zmc M) pc = .ok (.pop, 1)) (hc : v.category = 1) (hq : q = pc + 1) (k : zAW g l d n0 n1 M w q lv st Q) : zAW g l d n0 n1 M w pc lv (v :: st) Q := by
  subst hq
  intro p e R s m args below meth c H locs ls C hR hL hl
  exact lv_pop C.1 C.2.1 hd (by rw [zrv_cat]; exact hc) (k p e R s m args below meth c H locs ls C hR hL hl)
theorem zDupx1 {va vb : Value} (hd : decode (zmc M) pc = .ok (.dup_x1, 1)) (hva : va.category = 1) (hvb : vb.category = 1) (hq : q = pc + 1) (k : zAW g l d n0 n1 M w q lv (va :: vb :: va :: st) Q) : zAW g l d n0 n1 M w pc lv (va :: vb :: st) Q := by
  subst hq
  intro p e R s m args below meth c H locs ls C hR hL hl
  exact lv_dup_x1 C.1 C.2.1 hd (by rw [zrv_cat]; exact hva) (by rw [zrv_cat]; exact hvb) (k p e R s m args below meth c H locs ls C hR hL hl)
theorem zDup2 {va vb : Value} (hd : decode (zmc M) pc = .ok (.dup2, 1)) (hva : va.category = 1) (hvb : vb.category = 1) (hq : q = pc + 1) (k : zAW g l d n0 n1 M w q lv (va :: vb :: va :: vb :: st) Q) : zAW g l d n0 n1 M w pc lv (va :: vb :: st) Q := by
  subst hq
  intro p e R s m args below meth c H locs ls C hR hL hl
  exact lv_dup2_11 C.1 C.2.1 hd (by rw [zrv_cat]; exact hva) (by rw [zrv_cat]; exact hvb) (k p e R s m args below meth c H locs ls C hR hL hl)
theorem zLdc {idx : Nat} {v : Int32} (hd : decode (zmc M) pc = .ok (.ldc idx, 2)) (hc : Cond.constant (zmo M) idx v ∈ zWT) (hq : q = pc + 2) (k : zAW g l d n0 n1 M w q lv (.int v :: st) Q) : zAW g l d n0 n1 M w pc lv st Q := by
  subst hq
  intro p e R s m args below meth c H locs ls C hR hL hl
  exact lv_ldc C.1 C.2.1 C.2.2.2.2.2.2.1 (C.2.2.2.2.2.2.2.1 _ hc) hd (k p e R s m args below meth c H locs ls C hR hL hl)
theorem zLdcw {idx : Nat} {v : Int32} (hd : decode (zmc M) pc = .ok (.ldc_w idx, 3)) (hc : Cond.constant (zmo M) idx v ∈ zWT) (hq : q = pc + 3) (k : zAW g l d n0 n1 M w q lv (.int v :: st) Q) : zAW g l d n0 n1 M w pc lv st Q := by
  subst hq
  intro p e R s m args below meth c H locs ls C hR hL hl
  exact lv_ldcw C.1 C.2.1 C.2.2.2.2.2.2.1 (C.2.2.2.2.2.2.2.1 _ hc) hd (k p e R s m args below meth c H locs ls C hR hL hl)
theorem zLdc2 {idx : Nat} {v : Int64} (hd : decode (zmc M) pc = .ok (.ldc2_w idx, 3)) (hc : Cond.constantLong (zmo M) idx v ∈ zWT) (hq : q = pc + 3) (k : zAW g l d n0 n1 M w q lv (.long v :: st) Q) : zAW g l d n0 n1 M w pc lv st Q := by
  subst hq
  intro p e R s m args below meth c H locs ls C hR hL hl
  exact lv_ldc2 C.1 C.2.1 C.2.2.2.2.2.2.1 (C.2.2.2.2.2.2.2.1 _ hc) hd (k p e R s m args below meth c H locs ls C hR hL hl)
theorem zIloadN {kf : Fin 4} {i : Nat} {x : Int32} (hd : decode (zmc M) pc = .ok (.iload_n kf, 1)) (hi : (kf : Nat) = i) (hx : zlk lv i = some (.int x)) (hq : q = pc + 1) (k : zAW g l d n0 n1 M w q lv (.int x :: st) Q) : zAW g l d n0 n1 M w pc lv st Q := by
  subst hq
  intro p e R s m args below meth c H locs ls C hR hL hl
  exact lv_iload_n C.1 C.2.1 hd hi (zlk_at hl hx) (k p e R s m args below meth c H locs ls C hR hL hl)
theorem zIload {i : Nat} {x : Int32} (hd : decode (zmc M) pc = .ok (.iload i, 2)) (hx : zlk lv i = some (.int x)) (hq : q = pc + 2) (k : zAW g l d n0 n1 M w q lv (.int x :: st) Q) : zAW g l d n0 n1 M w pc lv st Q := by
  subst hq
  intro p e R s m args below meth c H locs ls C hR hL hl
  exact lv_iload C.1 C.2.1 hd (zlk_at hl hx) (k p e R s m args below meth c H locs ls C hR hL hl)
theorem zLloadN {kf : Fin 4} {i : Nat} {x : Int64} (hd : decode (zmc M) pc = .ok (.lload_n kf, 1)) (hi : (kf : Nat) = i) (hx : zlk lv i = some (.long x)) (hq : q = pc + 1) (k : zAW g l d n0 n1 M w q lv (.long x :: st) Q) : zAW g l d n0 n1 M w pc lv st Q := by
  subst hq
  intro p e R s m args below meth c H locs ls C hR hL hl
  exact lv_lload_n C.1 C.2.1 hd hi (zlk_at hl hx) (k p e R s m args below meth c H locs ls C hR hL hl)
theorem zLload {i : Nat} {x : Int64} (hd : decode (zmc M) pc = .ok (.lload i, 2)) (hx : zlk lv i = some (.long x)) (hq : q = pc + 2) (k : zAW g l d n0 n1 M w q lv (.long x :: st) Q) : zAW g l d n0 n1 M w pc lv st Q := by
  subst hq
  intro p e R s m args below meth c H locs ls C hR hL hl
  exact lv_lload C.1 C.2.1 hd (zlk_at hl hx) (k p e R s m args below meth c H locs ls C hR hL hl)
theorem zAloadN {kf : Fin 4} {i : Nat} {x : Nat} (hd : decode (zmc M) pc = .ok (.aload_n kf, 1)) (hi : (kf : Nat) = i) (hx : zlk lv i = some (.ref x)) (hq : q = pc + 1) (k : zAW g l d n0 n1 M w q lv (.ref x :: st) Q) : zAW g l d n0 n1 M w pc lv st Q := by
  subst hq
  intro p e R s m args below meth c H locs ls C hR hL hl
  exact lv_aload_n C.1 C.2.1 hd hi (zlk_at hl hx) (k p e R s m args below meth c H locs ls C hR hL hl)
theorem zAload {i : Nat} {x : Nat} (hd : decode (zmc M) pc = .ok (.aload i, 2)) (hx : zlk lv i = some (.ref x)) (hq : q = pc + 2) (k : zAW g l d n0 n1 M w q lv (.ref x :: st) Q) : zAW g l d n0 n1 M w pc lv st Q := by
  subst hq
  intro p e R s m args below meth c H locs ls C hR hL hl
  exact lv_aload C.1 C.2.1 hd (zlk_at hl hx) (k p e R s m args below meth c H locs ls C hR hL hl)
theorem zAloadNN {kf : Fin 4} {i : Nat} (hd : decode (zmc M) pc = .ok (.aload_n kf, 1)) (hi : (kf : Nat) = i) (hx : zlk lv i = some .null) (hq : q = pc + 1) (k : zAW g l d n0 n1 M w q lv (.null :: st) Q) : zAW g l d n0 n1 M w pc lv st Q := by
  subst hq
  intro p e R s m args below meth c H locs ls C hR hL hl
  exact lv_aload_nN C.1 C.2.1 hd hi (zlk_at hl hx) (k p e R s m args below meth c H locs ls C hR hL hl)
theorem zAload0 {i : Nat} (hd : decode (zmc M) pc = .ok (.aload i, 2)) (hx : zlk lv i = some .null) (hq : q = pc + 2) (k : zAW g l d n0 n1 M w q lv (.null :: st) Q) : zAW g l d n0 n1 M w pc lv st Q := by
  subst hq
  intro p e R s m args below meth c H locs ls C hR hL hl
  exact lv_aloadN C.1 C.2.1 hd (zlk_at hl hx) (k p e R s m args below meth c H locs ls C hR hL hl)
theorem zIstoreN {kf : Fin 4} {i : Nat} {x : Int32} {lv' : List (Nat × Value)} (hd : decode (zmc M) pc = .ok (.istore_n kf, 1)) (hi : (kf : Nat) = i) (hn : i < zmn M) (hv : (i, .int x) :: zfl lv i = lv') (hq : q = pc + 1) (k : zAW g l d n0 n1 M w q lv' st Q) : zAW g l d n0 n1 M w pc lv (.int x :: st) Q := by
  subst hq
  intro p e R s m args below meth c H locs ls C hR hL hl
  exact lv_istore_n C.1 C.2.1 hd hi hl hn (by rw [zfl_eq, ← hv]; rfl) (fun ls hl => k p e R s m args below meth c H locs ls C hR hL hl)
theorem zIstore {i : Nat} {x : Int32} {lv' : List (Nat × Value)} (hd : decode (zmc M) pc = .ok (.istore i, 2)) (hn : i < zmn M) (hv : (i, .int x) :: zfl lv i = lv') (hq : q = pc + 2) (k : zAW g l d n0 n1 M w q lv' st Q) : zAW g l d n0 n1 M w pc lv (.int x :: st) Q := by
  subst hq
  intro p e R s m args below meth c H locs ls C hR hL hl
  exact lv_istore C.1 C.2.1 hd hl hn (by rw [zfl_eq, ← hv]; rfl) (fun ls hl => k p e R s m args below meth c H locs ls C hR hL hl)
theorem zAstoreN {kf : Fin 4} {i : Nat} {x : Nat} {lv' : List (Nat × Value)} (hd : decode (zmc M) pc = .ok (.astore_n kf, 1)) (hi : (kf : Nat) = i) (hn : i < zmn M) (hv : (i, .ref x) :: zfl lv i = lv') (hq : q = pc + 1) (k : zAW g l d n0 n1 M w q lv' st Q) : zAW g l d n0 n1 M w pc lv (.ref x :: st) Q := by
  subst hq
  intro p e R s m args below meth c H locs ls C hR hL hl
  exact lv_astore_n C.1 C.2.1 hd hi hl hn (by rw [zfl_eq, ← hv]; rfl) (fun ls hl => k p e R s m args below meth c H locs ls C hR hL hl)
theorem zAstore {i : Nat} {x : Nat} {lv' : List (Nat × Value)} (hd : decode (zmc M) pc = .ok (.astore i, 2)) (hn : i < zmn M) (hv : (i, .ref x) :: zfl lv i = lv') (hq : q = pc + 2) (k : zAW g l d n0 n1 M w q lv' st Q) : zAW g l d n0 n1 M w pc lv (.ref x :: st) Q := by
  subst hq
  intro p e R s m args below meth c H locs ls C hR hL hl
  exact lv_astore C.1 C.2.1 hd hl hn (by rw [zfl_eq, ← hv]; rfl) (fun ls hl => k p e R s m args below meth c H locs ls C hR hL hl)
theorem zAstoreNN {kf : Fin 4} {i : Nat} {lv' : List (Nat × Value)} (hd : decode (zmc M) pc = .ok (.astore_n kf, 1)) (hi : (kf : Nat) = i) (hn : i < zmn M) (hv : (i, Value.null) :: zfl lv i = lv') (hq : q = pc + 1) (k : zAW g l d n0 n1 M w q lv' st Q) : zAW g l d n0 n1 M w pc lv (.null :: st) Q := by
  subst hq
  intro p e R s m args below meth c H locs ls C hR hL hl
  exact lv_astore_nN C.1 C.2.1 hd hi hl hn (by rw [zfl_eq, ← hv]; rfl) (fun ls hl => k p e R s m args below meth c H locs ls C hR hL hl)
theorem zAstore0 {i : Nat} {lv' : List (Nat × Value)} (hd : decode (zmc M) pc = .ok (.astore i, 2)) (hn : i < zmn M) (hv : (i, Value.null) :: zfl lv i = lv') (hq : q = pc + 2) (k : zAW g l d n0 n1 M w q lv' st Q) : zAW g l d n0 n1 M w pc lv (.null :: st) Q := by
  subst hq
  intro p e R s m args below meth c H locs ls C hR hL hl
  exact lv_astoreN C.1 C.2.1 hd hl hn (by rw [zfl_eq, ← hv]; rfl) (fun ls hl => k p e R s m args below meth c H locs ls C hR hL hl)
theorem zLstoreN {kf : Fin 4} {i : Nat} {x : Int64} {lv' : List (Nat × Value)} (hd : decode (zmc M) pc = .ok (.lstore_n kf, 1)) (hi : (kf : Nat) = i) (hn : i + 1 < zmn M) (hv : (i, Value.long x) :: zfl2 lv i = lv') (hq : q = pc + 1) (k : zAW g l d n0 n1 M w q lv' st Q) : zAW g l d n0 n1 M w pc lv (.long x :: st) Q := by
  subst hq
  intro p e R s m args below meth c H locs ls C hR hL hl
  exact lv_lstore_n C.1 C.2.1 hd hi hl hn (by rw [zfl2_eq, ← hv]; rfl) (fun ls hl => k p e R s m args below meth c H locs ls C hR hL hl)
theorem zLstore {i : Nat} {x : Int64} {lv' : List (Nat × Value)} (hd : decode (zmc M) pc = .ok (.lstore i, 2)) (hn : i + 1 < zmn M) (hv : (i, Value.long x) :: zfl2 lv i = lv') (hq : q = pc + 2) (k : zAW g l d n0 n1 M w q lv' st Q) : zAW g l d n0 n1 M w pc lv (.long x :: st) Q := by
  subst hq
  intro p e R s m args below meth c H locs ls C hR hL hl
  exact lv_lstore C.1 C.2.1 hd hl hn (by rw [zfl2_eq, ← hv]; rfl) (fun ls hl => k p e R s m args below meth c H locs ls C hR hL hl)
theorem zIinc {i : Nat} {a : Int} {x v : Int32} {lv' : List (Nat × Value)} (hd : decode (zmc M) pc = .ok (.iinc i a, 3)) (hx : zlk lv i = some (.int x)) (ha : x + Int32.ofInt a = v) (hn : i < zmn M) (hv : (i, Value.int v) :: zfl lv i = lv') (hq : q = pc + 3) (k : zAW g l d n0 n1 M w q lv' st Q) : zAW g l d n0 n1 M w pc lv st Q := by
  subst hq
  intro p e R s m args below meth c H locs ls C hR hL hl
  obtain ⟨j, hj⟩ := List.getElem?_of_mem (List.mem_map.mpr ⟨(i, Value.int x), zlk_mem hx, rfl⟩ : (i, zrv g (.int x)) ∈ zlv g lv)
  exact lv_iinc C.1 C.2.1 hd hl hj ha hn (by rw [zfl_eq, ← hv]; rfl) (fun ls hl => k p e R s m args below meth c H locs ls C hR hL hl)
theorem zGoto {off : Int} (hd : decode (zmc M) pc = .ok (.goto off, 3)) (ht : (pc : Int) + off = (q : Int)) (k : zAW g l d n0 n1 M w q lv st Q) : zAW g l d n0 n1 M w pc lv st Q := by
  intro p e R s m args below meth c H locs ls C hR hL hl
  exact lv_goto C.1 C.2.1 hd ht (k p e R s m args below meth c H locs ls C hR hL hl)
theorem zIfnull {x : Nat} {off : Int} (hd : decode (zmc M) pc = .ok (.ifnull off, 3)) (hq : q = pc + 3) (k : zAW g l d n0 n1 M w q lv st Q) : zAW g l d n0 n1 M w pc lv (.ref x :: st) Q := by
  subst hq
  intro p e R s m args below meth c H locs ls C hR hL hl
  exact lv_ifnull C.1 C.2.1 hd (k p e R s m args below meth c H locs ls C hR hL hl)
theorem zIfnull0 {off : Int} (hd : decode (zmc M) pc = .ok (.ifnull off, 3)) (ht : (pc : Int) + off = (q : Int)) (k : zAW g l d n0 n1 M w q lv st Q) : zAW g l d n0 n1 M w pc lv (.null :: st) Q := by
  intro p e R s m args below meth c H locs ls C hR hL hl
  exact lv_ifnullN C.1 C.2.1 hd ht (k p e R s m args below meth c H locs ls C hR hL hl)
theorem zIfnonnull {x : Nat} {off : Int} (hd : decode (zmc M) pc = .ok (.ifnonnull off, 3)) (ht : (pc : Int) + off = (q : Int)) (k : zAW g l d n0 n1 M w q lv st Q) : zAW g l d n0 n1 M w pc lv (.ref x :: st) Q := by
  intro p e R s m args below meth c H locs ls C hR hL hl
  exact lv_ifnonnull C.1 C.2.1 hd ht (k p e R s m args below meth c H locs ls C hR hL hl)
theorem zIfnonnull0 {off : Int} (hd : decode (zmc M) pc = .ok (.ifnonnull off, 3)) (hq : q = pc + 3) (k : zAW g l d n0 n1 M w q lv st Q) : zAW g l d n0 n1 M w pc lv (.null :: st) Q := by
  subst hq
  intro p e R s m args below meth c H locs ls C hR hL hl
  exact lv_ifnonnullN C.1 C.2.1 hd (k p e R s m args below meth c H locs ls C hR hL hl)
theorem zIcmp_eq {x y : Int32} {off : Int} {tgt : Nat} (hd : decode (zmc M) pc = .ok (.if_icmp .eq off, 3)) (ht : (pc : Int) + off = (tgt : Int)) (hq : q = pc + 3) (kt : x = y → zAW g l d n0 n1 M w tgt lv st Q) (kf : ¬ x = y → zAW g l d n0 n1 M w q lv st Q) : zAW g l d n0 n1 M w pc lv (.int y :: .int x :: st) Q := by
  subst hq
  intro p e R s m args below meth c H locs ls C hR hL hl
  exact lv_icmp_eq C.1 C.2.1 hd ht (fun h => kt h p e R s m args below meth c H locs ls C hR hL hl) (fun h => kf h p e R s m args below meth c H locs ls C hR hL hl)
theorem zIf_eq {x : Int32} {off : Int} {tgt : Nat} (hd : decode (zmc M) pc = .ok (.ifCond .eq off, 3)) (ht : (pc : Int) + off = (tgt : Int)) (hq : q = pc + 3) (kt : x = 0 → zAW g l d n0 n1 M w tgt lv st Q) (kf : ¬ x = 0 → zAW g l d n0 n1 M w q lv st Q) : zAW g l d n0 n1 M w pc lv (.int x :: st) Q := by
  subst hq
  intro p e R s m args below meth c H locs ls C hR hL hl
  exact lv_if_eq C.1 C.2.1 hd ht (fun h => kt h p e R s m args below meth c H locs ls C hR hL hl) (fun h => kf h p e R s m args below meth c H locs ls C hR hL hl)
theorem zIcmp_ne {x y : Int32} {off : Int} {tgt : Nat} (hd : decode (zmc M) pc = .ok (.if_icmp .ne off, 3)) (ht : (pc : Int) + off = (tgt : Int)) (hq : q = pc + 3) (kt : ¬ x = y → zAW g l d n0 n1 M w tgt lv st Q) (kf : x = y → zAW g l d n0 n1 M w q lv st Q) : zAW g l d n0 n1 M w pc lv (.int y :: .int x :: st) Q := by
  subst hq
  intro p e R s m args below meth c H locs ls C hR hL hl
  exact lv_icmp_ne C.1 C.2.1 hd ht (fun h => kt h p e R s m args below meth c H locs ls C hR hL hl) (fun h => kf h p e R s m args below meth c H locs ls C hR hL hl)
theorem zIf_ne {x : Int32} {off : Int} {tgt : Nat} (hd : decode (zmc M) pc = .ok (.ifCond .ne off, 3)) (ht : (pc : Int) + off = (tgt : Int)) (hq : q = pc + 3) (kt : ¬ x = 0 → zAW g l d n0 n1 M w tgt lv st Q) (kf : x = 0 → zAW g l d n0 n1 M w q lv st Q) : zAW g l d n0 n1 M w pc lv (.int x :: st) Q := by
  subst hq
  intro p e R s m args below meth c H locs ls C hR hL hl
  exact lv_if_ne C.1 C.2.1 hd ht (fun h => kt h p e R s m args below meth c H locs ls C hR hL hl) (fun h => kf h p e R s m args below meth c H locs ls C hR hL hl)
theorem zIcmp_lt {x y : Int32} {off : Int} {tgt : Nat} (hd : decode (zmc M) pc = .ok (.if_icmp .lt off, 3)) (ht : (pc : Int) + off = (tgt : Int)) (hq : q = pc + 3) (kt : x < y → zAW g l d n0 n1 M w tgt lv st Q) (kf : ¬ x < y → zAW g l d n0 n1 M w q lv st Q) : zAW g l d n0 n1 M w pc lv (.int y :: .int x :: st) Q := by
  subst hq
  intro p e R s m args below meth c H locs ls C hR hL hl
  exact lv_icmp_lt C.1 C.2.1 hd ht (fun h => kt h p e R s m args below meth c H locs ls C hR hL hl) (fun h => kf h p e R s m args below meth c H locs ls C hR hL hl)
theorem zIf_lt {x : Int32} {off : Int} {tgt : Nat} (hd : decode (zmc M) pc = .ok (.ifCond .lt off, 3)) (ht : (pc : Int) + off = (tgt : Int)) (hq : q = pc + 3) (kt : x < 0 → zAW g l d n0 n1 M w tgt lv st Q) (kf : ¬ x < 0 → zAW g l d n0 n1 M w q lv st Q) : zAW g l d n0 n1 M w pc lv (.int x :: st) Q := by
  subst hq
  intro p e R s m args below meth c H locs ls C hR hL hl
  exact lv_if_lt C.1 C.2.1 hd ht (fun h => kt h p e R s m args below meth c H locs ls C hR hL hl) (fun h => kf h p e R s m args below meth c H locs ls C hR hL hl)
theorem zIcmp_ge {x y : Int32} {off : Int} {tgt : Nat} (hd : decode (zmc M) pc = .ok (.if_icmp .ge off, 3)) (ht : (pc : Int) + off = (tgt : Int)) (hq : q = pc + 3) (kt : y ≤ x → zAW g l d n0 n1 M w tgt lv st Q) (kf : ¬ y ≤ x → zAW g l d n0 n1 M w q lv st Q) : zAW g l d n0 n1 M w pc lv (.int y :: .int x :: st) Q := by
  subst hq
  intro p e R s m args below meth c H locs ls C hR hL hl
  exact lv_icmp_ge C.1 C.2.1 hd ht (fun h => kt h p e R s m args below meth c H locs ls C hR hL hl) (fun h => kf h p e R s m args below meth c H locs ls C hR hL hl)
theorem zIf_ge {x : Int32} {off : Int} {tgt : Nat} (hd : decode (zmc M) pc = .ok (.ifCond .ge off, 3)) (ht : (pc : Int) + off = (tgt : Int)) (hq : q = pc + 3) (kt : 0 ≤ x → zAW g l d n0 n1 M w tgt lv st Q) (kf : ¬ 0 ≤ x → zAW g l d n0 n1 M w q lv st Q) : zAW g l d n0 n1 M w pc lv (.int x :: st) Q := by
  subst hq
  intro p e R s m args below meth c H locs ls C hR hL hl
  exact lv_if_ge C.1 C.2.1 hd ht (fun h => kt h p e R s m args below meth c H locs ls C hR hL hl) (fun h => kf h p e R s m args below meth c H locs ls C hR hL hl)
theorem zIcmp_gt {x y : Int32} {off : Int} {tgt : Nat} (hd : decode (zmc M) pc = .ok (.if_icmp .gt off, 3)) (ht : (pc : Int) + off = (tgt : Int)) (hq : q = pc + 3) (kt : y < x → zAW g l d n0 n1 M w tgt lv st Q) (kf : ¬ y < x → zAW g l d n0 n1 M w q lv st Q) : zAW g l d n0 n1 M w pc lv (.int y :: .int x :: st) Q := by
  subst hq
  intro p e R s m args below meth c H locs ls C hR hL hl
  exact lv_icmp_gt C.1 C.2.1 hd ht (fun h => kt h p e R s m args below meth c H locs ls C hR hL hl) (fun h => kf h p e R s m args below meth c H locs ls C hR hL hl)
theorem zIf_gt {x : Int32} {off : Int} {tgt : Nat} (hd : decode (zmc M) pc = .ok (.ifCond .gt off, 3)) (ht : (pc : Int) + off = (tgt : Int)) (hq : q = pc + 3) (kt : 0 < x → zAW g l d n0 n1 M w tgt lv st Q) (kf : ¬ 0 < x → zAW g l d n0 n1 M w q lv st Q) : zAW g l d n0 n1 M w pc lv (.int x :: st) Q := by
  subst hq
  intro p e R s m args below meth c H locs ls C hR hL hl
  exact lv_if_gt C.1 C.2.1 hd ht (fun h => kt h p e R s m args below meth c H locs ls C hR hL hl) (fun h => kf h p e R s m args below meth c H locs ls C hR hL hl)
theorem zIcmp_le {x y : Int32} {off : Int} {tgt : Nat} (hd : decode (zmc M) pc = .ok (.if_icmp .le off, 3)) (ht : (pc : Int) + off = (tgt : Int)) (hq : q = pc + 3) (kt : x ≤ y → zAW g l d n0 n1 M w tgt lv st Q) (kf : ¬ x ≤ y → zAW g l d n0 n1 M w q lv st Q) : zAW g l d n0 n1 M w pc lv (.int y :: .int x :: st) Q := by
  subst hq
  intro p e R s m args below meth c H locs ls C hR hL hl
  exact lv_icmp_le C.1 C.2.1 hd ht (fun h => kt h p e R s m args below meth c H locs ls C hR hL hl) (fun h => kf h p e R s m args below meth c H locs ls C hR hL hl)
theorem zIf_le {x : Int32} {off : Int} {tgt : Nat} (hd : decode (zmc M) pc = .ok (.ifCond .le off, 3)) (ht : (pc : Int) + off = (tgt : Int)) (hq : q = pc + 3) (kt : x ≤ 0 → zAW g l d n0 n1 M w tgt lv st Q) (kf : ¬ x ≤ 0 → zAW g l d n0 n1 M w q lv st Q) : zAW g l d n0 n1 M w pc lv (.int x :: st) Q := by
  subst hq
  intro p e R s m args below meth c H locs ls C hR hL hl
  exact lv_if_le C.1 C.2.1 hd ht (fun h => kt h p e R s m args below meth c H locs ls C hR hL hl) (fun h => kf h p e R s m args below meth c H locs ls C hR hL hl)
end ZR
