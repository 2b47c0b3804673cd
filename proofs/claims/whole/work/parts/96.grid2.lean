/-! ROWS OF ROWS: the instruction -/
theorem zmF_top {s : State} {f : JFrame} {c k : ClassId} : ∀ i, zmF (s.setTop f) c k i = (zmF s c k i).setTop f
  | 0 => rfl
  | i + 1 => by
    show ((zmF (s.setTop f) c k i).pushCell (zmI k)).setCell _ _ = _
    rw [zmF_top i]; rfl
theorem arrV_ext {c : ClassId} {n : Nat} {f f2 : Nat → Value} (h : ∀ j, j < n → f j = f2 j) : arrV c n f = arrV c n f2 := by
  unfold arrV
  have e : (fun j : Fin n => f j.val) = fun j : Fin n => f2 j.val := funext fun j => h j.val j.isLt
  rw [e]
theorem zgrid {g : zG} {I : Nat → Nat → Int32} {L : Nat → Nat → Int64} {R : Nat → Nat → Option Nat} {n : Nat} {s : State} (hR : zRep g (I, L, R, n) s.heap) (hs : zsh n = (24, 12)) (hsi : ∀ j, j < 12 → zsh (n + 1 + j) = (20, 10)) (hI : ∀ j, j < 12 → ∀ k, I (n + 1 + j) k = 0) :
    zRep g (I, L, zup R n (fun j => if j < 12 then some (n + 1 + j) else none), n + 13) (zmF s (zgA g 24) (zgA g 20) 12).heap := by
  obtain ⟨a1, a2, a3, a4, -⟩ := zmF_ok (s := s) (c := zgA g 24) (k := zgA g 20) 12
  have hz : s.heap.size = zgB g + n := hR.1
  rw [hz] at a1 a2 a3 a4
  refine ⟨?_, fun a ha => ?_, fun q hq => ?_⟩
  · show (zmF s (zgA g 24) (zgA g 20) 12).heap.size = zgB g + (n + 13)
    rw [a1]; omega
  · show zcell g (I a) (L a) (zup R n (fun j => if j < 12 then some (n + 1 + j) else none) a) a _
    have ha : a < n + 13 := ha
    by_cases h1 : a < n
    · rw [zup_ne (by omega)]
      exact zcell_kept (hR.2.1 a h1) (a3 _ (by omega))
    · by_cases h2 : a = n
      · subst h2
        rw [zup_eq]
        refine zcell_ai hs (by decide) (a2.trans (congrArg some ?_))
        unfold zmO
        refine arrV_ext (fun j hj => ?_)
        rw [if_pos hj]
        show Value.ref (zgB g + a + 1 + j) = va_rf ((if j < 12 then some (a + 1 + j) else none).map (zad g))
        rw [if_pos hj]
        show Value.ref (zgB g + a + 1 + j) = Value.ref (zad g (a + 1 + j))
        rw [zad_lt (hsi j hj) (by decide)]
        have ej : zgB g + a + 1 + j = zgB g + (a + 1 + j) := by omega
        rw [ej]
      · obtain ⟨j, hj, rfl⟩ : ∃ j, j < 12 ∧ a = n + 1 + j := ⟨a - (n + 1), by omega, by omega⟩
        have q := a4 j hj
        rw [show zgB g + n + 1 + j = zgB g + (n + 1 + j) by omega] at q
        refine zcell_ai (hsi j hj) (by decide) (q.trans (congrArg some ?_))
        unfold zmI
        refine arrV_ext (fun k _ => ?_)
        show Value.int 0 = Value.int (I (n + 1 + j) k)
        rw [hI j hj]
  · exact (a3 q (by omega)).trans (hR.2.2 q hq)
section S96a
variable {p : Program} {l : Launch} {e : Env} {R : Room} {s : State} {m : MethodId} {args : Array Value} {below : List Frame} {meth : Method} {c : Code} {T : State} {locs : List Loc} {cells slots : Nat}
theorem zmStep (X : Stand p l e R s m args below meth c T locs cells slots) (hexec : p.tables.exec = Jvm.exec) {g : JFrame} (hg : g.method = m) {idx : Nat} (hdg : decode c.code g.pc = .ok (.multianewarray idx 2, 4)) {rest : List Value} (hstack : g.stack = .int (nI 10) :: .int (nI 12) :: rest)
    {cA comp cc : ClassId} {vm1 : Vm} {kA kC : Class} (w1 : (Jvm.resolveClass m.cls idx).Gives e.toSetting T.vm (.ok cA) vm1) (w2 : s.WarmedH vm1) (hkA : vm1.classes[cA]? = some kA) (hkindA : kA.kind = .array comp (.array .int)) (hkC : vm1.classes[comp]? = some kC) (hkindC : kC.kind = .array cc .int)
    (hlim : 12 ≤ e.platform.arrayLengthLimit ∧ 100 ≤ e.platform.maxHeapBytes) (r1 : T.heap.size + 13 ≤ e.platform.maxCells) (r2 : T.slotsUsed + 132 ≤ e.platform.maxSlots) (target : State)
    (a1 : Steps p.tables e below ((zmF (T.setVm vm1) cA comp 12).setTop { g with pc := g.pc + 4, stack := .ref T.heap.size :: rest }) target) : Steps p.tables e below (T.setTop g) target := by
  subst hg
  obtain ⟨J, -, XF⟩ := zmF_stand (X.noted w2) cA comp 12
  jvm_step X.here [hexec, hdg]
  simp only [multianewarray.sem, wp_bind', W.resolveClassAt_links (State.method?_setTop g X.here.top) w1]
  rw [W.popN, if_neg (by decide)]
  refine ⟨g, State.topJava?_setTop' (s := T.setVm vm1) g X.here.top, [.int (nI 12), .int (nI 10)], rest, rfl, hstack, ?_⟩
  simp only [List.mapM_cons, List.mapM_nil, wp_bind', wp_pure']
  refine zmOdd (s := ((T.setTop g).setVm vm1).setTop { g with stack := rest }) (kA := kA) (kC := kC) (comp := comp) (cc := cc) hkA hkindA hkC hkindC hlim r1 r2 (fun d2 acts2 => ?_)
  have eS : ((T.setTop g).setVm vm1).setTop { g with stack := rest } = (T.setVm vm1).setTop { g with stack := rest } := by
    show ((T.setVm vm1).setTop g).setTop _ = _
    rw [State.setTop_setTop]
  rw [eS, zmF_top]
  simp only [wp_bind', W.mark, W.pushRef, State.topJava?_setTop' _ XF.here.top, Option.some.injEq, exists_eq_left', State.setTop_setTop, State.heap_setTop]
  intro acts
  simp [jvm, XF.here.top]
  exact a1
end S96a
section S96
variable {g : zG} {l : Launch} {d n0 n1 : Nat} {M : zM} {I : Nat → Nat → Int32} {L : Nat → Nat → Int64} {R : Nat → Nat → Option Nat} {n pc q : Nat} {lv : List (Nat × Value)} {st : List Value} {Q : Option Value → zW → Prop}
theorem zMulti {idx : Nat} {x y : Int32} (hd : decode (zmc M) pc = .ok (.multianewarray idx 2, 4)) (hcl : Cond.classLink (zmo M) idx "[[I" ∈ zWT) (hs : zsh n = (24, 12)) (hsi : ∀ j, j < 12 → zsh (n + 1 + j) = (20, 10)) (hx : x = nI 12) (hy : y = nI 10) (hI : ∀ j, j < 12 → ∀ k, I (n + 1 + j) k = 0) (hn : n0 ≤ n ∧ n + 13 ≤ n1) (hq : q = pc + 4)
    (kk : zAW g l d n0 n1 M (I, L, zup R n (fun j => if j < 12 then some (n + 1 + j) else none), n + 13) q lv (.ref n :: st) Q) : zAW g l d n0 n1 M (I, L, R, n) pc lv (.int y :: .int x :: st) Q := by
  subst hq
  subst hx
  subst hy
  intro p e Rm s m args below meth c H locs ls C hR hL hl
  intro T hT X
  obtain ⟨hx, hb, hml', -, -, -, hown, hts, hSt, -, hce, hsl2⟩ := id C
  have hpl : e.platform.magicAccessors = ({} : Platform).magicAccessors := by rw [X.admits.platform]
  obtain ⟨comp, cA, kA, hcomp, -, hkA, hkindA, hnameA⟩ := arrayOverA_spec hSt.2.2.2.1
  obtain ⟨comp2, kC, cc, hcomp2, hkC, hkindC⟩ := Cond.arrayClass_spec (hts _ ac_int)
  have e1 : comp2 = comp := Option.some.inj (hcomp2.symm.trans hcomp)
  subst e1
  have estr : ("[" ++ (FieldType.array .int).toString) = "[[I" := by decide +kernel
  have eA : cA = zgA g 24 := Option.some.inj (hnameA.symm.trans (hSt.1.2 4 _ rfl).2)
  have eI : comp2 = zgA g 20 := Option.some.inj (hcomp2.symm.trans (hSt.1.2 0 _ rfl).2)
  rw [estr] at hnameA
  obtain ⟨c0, hc0, hlk⟩ := Cond.classLink_spec hown (hts _ hcl) e.platform hpl
  have e0 : c0 = cA := Option.some.inj (hc0.symm.trans hnameA)
  subst e0
  obtain ⟨w1, w2, w3⟩ := State.classEntry (e := e) X.warmed hlk
  generalize T.vm.noted m.cls idx (.cls c0) = vm1 at w1 w2 w3
  have hal : s.vm.Alike vm1 := w2.alike
  obtain ⟨kA1, hkA1, heA⟩ := hal.2.2 _ _ hkA
  obtain ⟨kC1, hkC1, heC⟩ := hal.2.2 _ _ hkC
  have hkindA1 : kA1.kind = .array comp2 (.array .int) := by rw [heA]; exact hkindA
  have hkindC1 : kC1.kind = .array cc .int := by rw [heC]; exact hkindC
  have hz0 := zS_le hn.1
  have hz1 : zS (n + 13) ≤ zS n1 := zS_le hn.2
  have es : zS (n + 13) = zS n + 132 := by
    show zS n + (zsh n).2 + (zsh (n + 1 + 0)).2 + (zsh (n + 1 + 1)).2 + (zsh (n + 1 + 2)).2 + (zsh (n + 1 + 3)).2 + (zsh (n + 1 + 4)).2 + (zsh (n + 1 + 5)).2 + (zsh (n + 1 + 6)).2 + (zsh (n + 1 + 7)).2 + (zsh (n + 1 + 8)).2 + (zsh (n + 1 + 9)).2 + (zsh (n + 1 + 10)).2 + (zsh (n + 1 + 11)).2 = _
    rw [hs, hsi 0 (by decide), hsi 1 (by decide), hsi 2 (by decide), hsi 3 (by decide), hsi 4 (by decide), hsi 5 (by decide), hsi 6 (by decide), hsi 7 (by decide), hsi 8 (by decide), hsi 9 (by decide), hsi 10 (by decide), hsi 11 (by decide)]
    dsimp only
  obtain ⟨r1, r2⟩ := X.roomAbove (a := 13) (b := 132) (by show n - n0 + 13 ≤ _; omega) (by show zS n - zS n0 + 132 ≤ _; omega)
  obtain ⟨J, hJ, XF⟩ := zmF_stand (X.noted w2) c0 comp2 12
  have hlim : 12 ≤ e.platform.arrayLengthLimit ∧ 100 ≤ e.platform.maxHeapBytes := by
    rw [Launch.admits_arrayLengthLimit X.admits, Launch.admits_maxHeapBytes X.admits]; decide
  have hRep : zRep g (I, L, zup R n (fun j => if j < 12 then some (n + 1 + j) else none), n + 13) (zmF (T.setVm vm1) c0 comp2 12).heap := by
    rw [eA, eI]
    exact zgrid (s := T.setVm vm1) (by show zRep g (I, L, R, n) T.heap; rw [hT]; exact hR) hs hsi hI
  have hTz : T.heap.size = zgB g + n := by rw [hT]; exact hR.1
  have ec : n + 13 - n0 = n - n0 + 1 + 12 := by omega
  have es2 : zS (n + 13) - zS n0 = zS n - zS n0 + 12 + 12 * 10 := by omega
  have h := kk p e Rm s m args below meth c _ (locs ++ J) ls C hRep (fun z hz => by
    rcases List.mem_append.mp hz with hz | hz
    · exact hL z hz
    · rw [hJ z hz]; show zgB g ≤ T.heap.size; rw [hTz]; exact Nat.le_add_right _ _) hl
  have h2 : W p l e Rm s m args below meth c (zmF (T.setVm vm1) c0 comp2 12).heap (locs ++ J) (n + 13 - n0) (zS (n + 13) - zS n0) (MQ below (zQc g n1 Q) args s (n1 - n0) (zS n1 - zS n0) (fun q => zgB g ≤ q)) (F0 m (pc + 4) ls (.ref (zad g n) :: st.map (zrv g))) := h
  rw [ec, es2, zad_lt hs (by decide), ← hTz] at h2
  obtain ⟨t, a1, b1⟩ := h2 _ rfl XF
  refine ⟨t, ?_, b1⟩
  exact zmStep X hx rfl (by rw [hb]; exact hd) rfl w1 w2 hkA1 hkindA1 hkC1 hkindC1 hlim r1 r2 t a1
end S96
