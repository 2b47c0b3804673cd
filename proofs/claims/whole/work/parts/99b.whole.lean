/-! THE START -/
theorem t_i1 {w : Cond} (i : Nat) (h : tables_1_1[i]? = some w) : w ∈ lw_tbl := List.mem_append_right _ (List.mem_append_left _ (List.mem_of_getElem? h))
theorem t_i2 {w : Cond} (i : Nat) (h : tables_1_2[i]? = some w) : w ∈ lw_tbl := List.mem_append_right _ (List.mem_append_right _ (List.mem_append_left _ (List.mem_of_getElem? h)))
theorem t_i3 {w : Cond} (i : Nat) (h : tables_1_3[i]? = some w) : w ∈ lw_tbl := List.mem_append_right _ (List.mem_append_right _ (List.mem_append_right _ (List.mem_append_left _ (List.mem_of_getElem? h))))
theorem t_i4 {w : Cond} (i : Nat) (h : tables_1_4[i]? = some w) : w ∈ lw_tbl := List.mem_append_right _ (List.mem_append_right _ (List.mem_append_right _ (List.mem_append_right _ (List.mem_append_left _ (List.mem_of_getElem? h)))))
theorem t_i5 {w : Cond} (i : Nat) (h : tables_1_5[i]? = some w) : w ∈ lw_tbl := List.mem_append_right _ (List.mem_append_right _ (List.mem_append_right _ (List.mem_append_right _ (List.mem_append_right _ (List.mem_append_left _ (List.mem_of_getElem? h))))))
theorem t_i6 {w : Cond} (i : Nat) (h : tables_1_6[i]? = some w) : w ∈ lw_tbl := List.mem_append_right _ (List.mem_append_right _ (List.mem_append_right _ (List.mem_append_right _ (List.mem_append_right _ (List.mem_append_right _ (List.mem_append_left _ (List.mem_of_getElem? h)))))))
theorem t_i7 {w : Cond} (i : Nat) (h : tables_1_7[i]? = some w) : w ∈ lw_tbl := List.mem_append_right _ (List.mem_append_right _ (List.mem_append_right _ (List.mem_append_right _ (List.mem_append_right _ (List.mem_append_right _ (List.mem_append_right _ (List.mem_of_getElem? h)))))))
theorem zc_inst {k : Nat} (hk : k < 13) : Cond.instantiable (zcR k) (zcN k) ∈ zWT := zk13 (P := fun k => Cond.instantiable (zcR k) (zcN k) ∈ zWT) in_X0 in_X1 in_X2 in_X3 in_X4 in_X5 in_X6 in_X7 in_X8 in_X9 in_X10 in_X11 in_X12 hk
theorem zArr {s : State} {c comp : ClassId} {k : Class} {ty : FieldType} (h2 : s.vm.classes[c]? = some k) (h3 : k.kind = .array comp ty) : ArrOfT s c ty := fun _ _ => ⟨(fun _ h => by cases h), k, h2, comp, h3⟩
set_option maxRecDepth 20000 in
theorem zgv_0 : ∀ j, j < 12 → Cond.eq (.elem (.static RX9 "LEAST" "[I") (.int (Int32.ofNat j))) (.int (zstv 0 j)) ∈ flatC (Jvm.Cond.and given_1 narrow_1) := by decide +kernel
theorem zga_0 : Cond.arrayOf (.static RX9 "LEAST" "[I") .int ∈ flatC (Jvm.Cond.and given_1 narrow_1) := by decide +kernel
theorem zgl_0 : Cond.eq (.length (.static RX9 "LEAST" "[I")) (.int 12) ∈ flatC (Jvm.Cond.and given_1 narrow_1) := by decide +kernel
set_option maxRecDepth 20000 in
theorem zgv_1 : ∀ j, j < 12 → Cond.eq (.elem (.static RX9 "MOST" "[I") (.int (Int32.ofNat j))) (.int (zstv 1 j)) ∈ flatC (Jvm.Cond.and given_1 narrow_1) := by decide +kernel
theorem zga_1 : Cond.arrayOf (.static RX9 "MOST" "[I") .int ∈ flatC (Jvm.Cond.and given_1 narrow_1) := by decide +kernel
theorem zgl_1 : Cond.eq (.length (.static RX9 "MOST" "[I")) (.int 12) ∈ flatC (Jvm.Cond.and given_1 narrow_1) := by decide +kernel
set_option maxRecDepth 20000 in
theorem zgv_2 : ∀ j, j < 8 → Cond.eq (.elem (.static RX0 "ABOVE" "[I") (.int (Int32.ofNat j))) (.int (zstv 2 j)) ∈ flatC (Jvm.Cond.and given_1 narrow_1) := by decide +kernel
theorem zga_2 : Cond.arrayOf (.static RX0 "ABOVE" "[I") .int ∈ flatC (Jvm.Cond.and given_1 narrow_1) := by decide +kernel
theorem zgl_2 : Cond.eq (.length (.static RX0 "ABOVE" "[I")) (.int 8) ∈ flatC (Jvm.Cond.and given_1 narrow_1) := by decide +kernel
set_option maxRecDepth 20000 in
theorem zgv_3 : ∀ j, j < 32 → Cond.eq (.elem (.static RX0 "OWN" "[I") (.int (Int32.ofNat j))) (.int (zstv 3 j)) ∈ flatC (Jvm.Cond.and given_1 narrow_1) := by decide +kernel
theorem zga_3 : Cond.arrayOf (.static RX0 "OWN" "[I") .int ∈ flatC (Jvm.Cond.and given_1 narrow_1) := by decide +kernel
theorem zgl_3 : Cond.eq (.length (.static RX0 "OWN" "[I")) (.int 32) ∈ flatC (Jvm.Cond.and given_1 narrow_1) := by decide +kernel
theorem zBegin {s : State} {b L : Nat} {xs : Nat → Int32} (hts : ∀ w ∈ lw_tbl, w.before #[Value.ref b] s = true) (hX : va_X b L xs s s.heap) (hbl : b < s.heap.size) (hgv : (Jvm.Cond.and given_1 narrow_1).before #[Value.ref b] s = true) : ∃ g : zG, zgB g = s.heap.size ∧ zgH g = s.heap ∧ zgL g = L ∧ zgS g 4 = b ∧ zSt g s := by
  have hz : ∀ x ∈ zWT, x.before #[Value.ref b] s = true := fun x hx => hts x (List.mem_filter.mp hx).1
  have hs := flat_of_before _ hgv
  have hA : ∀ a : Nat, a < s.heap.size → ¬ s.heap.size ≤ a := fun a h => Nat.not_le.mpr h
  have hK : ∀ k, ∃ (c : ClassId) (i : Nat → Nat), k < 13 → u_Kn s (zcR k) (zcT k) (zcN k) c i := by
    intro k
    by_cases hk : k < 13
    · obtain ⟨c, i, h⟩ := u_known hz (zc_in hk) (hz _ (zc_inst hk))
      exact ⟨c, i, fun _ => h⟩
    · exact ⟨0, fun _ => 0, fun h => absurd h hk⟩
  obtain ⟨cI, kI, oI, i1, i2, i3⟩ := Cond.arrayClass_spec (hz _ ac_int)
  obtain ⟨cL, kL, oL, l1, l2, l3⟩ := Cond.arrayClass_spec (hz _ ac_long)
  obtain ⟨cB, kB, oB, b1, b2, b3⟩ := Cond.arrayClass_spec (hz _ ac_byte)
  obtain ⟨cH, kH, oH, h1, h2, h3⟩ := Cond.arrayClass_spec (hz _ ac_short)
  have wA := hts (.arrayOver (.array .int)) (t_i1 32 (by decide +kernel))
  have wS := hts (.arrayOver (.object RX8)) (t_i2 40 (by decide +kernel))
  obtain ⟨oA, cA, kA, a1, -, a3, a4, a5⟩ := arrayOverA_spec wA
  obtain ⟨oS, cS, kS, s1, -, s3, s4, s5⟩ := Cond.arrayOver_spec wS
  obtain ⟨t0, e0, T0⟩ := va_Tof (N := 12) (f := fun k => .int (zstv 0 k)) (A := fun q => s.heap.size ≤ q) (by decide) (hs _ zga_0) (va_eqt (hs _ zgl_0)) (fun j hj => va_eqt (hs _ (zgv_0 j hj))) hA
  obtain ⟨t1, e1, T1⟩ := va_Tof (N := 12) (f := fun k => .int (zstv 1 k)) (A := fun q => s.heap.size ≤ q) (by decide) (hs _ zga_1) (va_eqt (hs _ zgl_1)) (fun j hj => va_eqt (hs _ (zgv_1 j hj))) hA
  obtain ⟨t2, e2, T2⟩ := va_Tof (N := 8) (f := fun k => .int (zstv 2 k)) (A := fun q => s.heap.size ≤ q) (by decide) (hs _ zga_2) (va_eqt (hs _ zgl_2)) (fun j hj => va_eqt (hs _ (zgv_2 j hj))) hA
  obtain ⟨t3, e3, T3⟩ := va_Tof (N := 32) (f := fun k => .int (zstv 3 k)) (A := fun q => s.heap.size ≤ q) (by decide) (hs _ zga_3) (va_eqt (hs _ zgl_3)) (fun j hj => va_eqt (hs _ (zgv_3 j hj))) hA
  refine ⟨(s.heap.size, s.heap, fun k => Classical.choose (hK k), fun k => Classical.choose (Classical.choose_spec (hK k)), fun k => if k = 20 then cI else if k = 21 then cL else if k = 22 then cB else if k = 23 then cH else if k = 24 then cA else cS, fun k => if k = 0 then t0 else if k = 1 then t1 else if k = 2 then t2 else if k = 3 then t3 else b, xs, L), rfl, rfl, rfl, rfl, ⟨fun k q hq => ?_, fun k q hq => ?_⟩, ?_, va_AO.of wS, wA, ⟨va_Zref (hts _ (t_i2 136 (by decide +kernel))) (hz _ it_X9) e0 hA, va_Zref (hts _ (t_i2 138 (by decide +kernel))) (hz _ it_X9) e1 hA, va_Zref (hts _ (t_i4 193 (by decide +kernel))) (hz _ it_X0) e2 hA, va_Zref (hts _ (t_i4 188 (by decide +kernel))) (hz _ it_X0) e3 hA⟩, ⟨T0, T1, T2, T3⟩, hX, hbl⟩
  · have hk : k < 13 := (List.getElem?_eq_some_iff.mp hq).1
    have eq : q = (zcR k, zcT k, zcN k) := Option.some.inj (hq.symm.trans (zc_at hk))
    subst eq
    exact Classical.choose_spec (Classical.choose_spec (hK k)) hk
  · match k, hq with
    | 0, hq => cases hq; exact ⟨zArr i2 i3, i1⟩
    | 1, hq => cases hq; exact ⟨zArr l2 l3, l1⟩
    | 2, hq => cases hq; exact ⟨zArr b2 b3, b1⟩
    | 3, hq => cases hq; exact ⟨zArr h2 h3, h1⟩
    | 4, hq => cases hq; exact ⟨zArr a3 a4, a5⟩
    | 5, hq => cases hq; exact ⟨zArr s3 s4, kS, oS, s3, s4, s1, s5⟩
    | k + 6, hq => exact absurd (List.getElem?_eq_some_iff.mp hq).1 (by show ¬ k + 6 < 6; omega)
  · exact List.forall_mem_cons.mpr ⟨va_Nw.of rfl (hts (.methodLinkNest RX11 41 (zmy m_X7_init) RX11) (t_i1 151 (by decide +kernel))), List.forall_mem_cons.mpr ⟨va_Nw.of rfl (hts (.methodLinkNest RX11 48 (zmy m_X10_init) RX11) (t_i1 184 (by decide +kernel))), List.forall_mem_cons.mpr ⟨va_Nw.of rfl (hts (.methodLinkNest RX11 55 (zmy m_X1_init) RX11) (t_i1 204 (by decide +kernel))), List.forall_mem_cons.mpr ⟨va_Nw.of rfl (hts (.methodLinkNest RX11 62 (zmy m_X5_init) RX11) (t_i1 230 (by decide +kernel))), List.forall_mem_cons.mpr ⟨va_Nw.of rfl (hts (.methodLinkNest RX11 69 (zmy m_X0_init) RX11) (t_i2 19 (by decide +kernel))), List.forall_mem_cons.mpr ⟨va_Nw.of rfl (hts (.methodLinkNest RX11 80 (zmy m_X8_init) RX11) (t_i2 42 (by decide +kernel))), List.forall_mem_cons.mpr ⟨va_Nw.of rfl (hts (.methodLinkNest RX11 83 (zmy m_X6_init) RX11) (t_i2 65 (by decide +kernel))), fun _ h => absurd h List.not_mem_nil⟩⟩⟩⟩⟩⟩⟩
theorem zS100 : zS 100 - zS 0 ≤ 7302250 := by decide +kernel
/-! THE CLAIM OUT OF ONE WALK OF THE LAW'S BODY. Your part is whole_start (and what it stands on); all else here is the same for every law, but numbers. -/
def R_law : String := "StarfishWatchLaw"
def lw_P (b : Addr) (xs : List Int32) (args : Array Value) (s : State) : Prop := args = #[.ref b] ∧ s.IntsAt b xs ∧ xs.length ≤ 3072 ∧ (Jvm.Cond.and given_1 narrow_1).before args s = true
def lw_Q (_ : Array Value) (s : State) (o : Outcome) (t : State) : Prop := o = .returned (some (.int 1)) ∧ Framed s o t [] 600000 7302250
def lw_Z (below : List Frame) (a : Array Value) (s : State) : State → Prop := fun t => ∃ o, t.status = .running ∧ Ended t below o ∧ lw_Q a s o t
/-- the law's own end, with 1 on the stack, nothing written that was there before, its room as the claim has it -/
theorem lw_ret {p : Program} {l : Launch} {e : Env} {s : State} {m : MethodId} {below : List Frame} {meth : Method} {c : Code} {b : Nat} (hx : p.tables.exec = Jvm.exec) (hb : c.code = code) (hr : meth.sig.returnType = ret) (hlocks : meth.locks = false) {pc : Nat} {H : Heap} {ls : Array Slot} (hdg : decode code pc = .ok (.ireturn, 1)) : W p l e room_1 s m #[Value.ref b] below meth c H [] 600000 7302250 (lw_Z below #[Value.ref b] s) (F0 m pc ls [.int 1]) := by
  intro T hT X
  obtain ⟨fs, hret, hrun, hended, hW, hframe⟩ := X.leave (v := some (.int 1)) (hlocks := hlocks) (fun h => by rw [hr] at h; cases h)
  have hmeth' : T.vm.method? m = some meth := X.method'
  refine ⟨T.setFrames fs, ?_, .returned (some (.int 1)), hrun, hended, rfl, ⟨_, rfl⟩, hW, hframe⟩
  jvm_step X.here [X.here.top, hx, hb, hdg, hmeth', hr, ret, narrow_b1]
  (try refine ⟨rfl, ?_⟩); (try refine ⟨rfl, ?_⟩)
  first | (intro acts; rw [hret _ acts rfl rfl rfl]) | rw [hret _ _ rfl rfl rfl]
  exact Steps.refl _
/-- what holds at the law's entry: the machine, the code, the tables' words (any of lw_tbl by 'hts w (by decide +kernel)'), the script of L ints xs at the cell b, what the Statement gives of the start (any of its parts by flat_of_before) -/
def lw_At (p : Program) (s : State) (m : MethodId) (meth : Method) (c : Code) (b L : Nat) (xs : Nat → Int32) : Prop :=
  p.tables.exec = Jvm.exec ∧ c.code = code ∧ meth.sig.returnType = ret ∧ c.maxLocals = 4 ∧ s.vm.findClass R_law = some m.cls ∧ (∀ w ∈ lw_tbl, w.before #[Value.ref b] s = true) ∧ va_X b L xs s s.heap ∧ b < s.heap.size ∧ meth.locks = false ∧ (Jvm.Cond.and given_1 narrow_1).before #[Value.ref b] s = true ∧ meth.name = "law"
-- ===== YOUR PART BEGINS =====
/-- YOUR PART: from the entry, for every script of at most 3072 ints, the law comes to its end with true ('hflags': the launch's flags, for a law that throws: no stack traces) -/
theorem whole_start {p : Program} {e : Env} {s : State} {m : MethodId} {below : List Frame} {meth : Method} {c : Code} (l : Launch) (hflags : l.flags = flags0) {b L : Nat} {xs : Nat → Int32} (hL : L ≤ 3072) (C0 : lw_At p s m meth c b L xs) : W p l e room_1 s m #[Value.ref b] below meth c s.heap [] 0 0 (lw_Z below #[Value.ref b] s) (entryFrame m ([Value.ref b] : List Value).toArray 4) := by
  obtain ⟨hx, hb, hr, hml, hown, hts, hX, hbl, hlocks, hgv, hnm⟩ := id C0
  obtain ⟨g, g1, g2, g3, g4, hSt⟩ := zBegin hts hX hbl hgv
  have hl := lv_entry ([.ref b]) (n := 4) (Nat.le_of_ble_eq_true rfl)
  rw [lg_entry_eq]
  generalize (lg_sl ([.ref b]) ++ List.replicate (4 - (lg_sl ([.ref b])).length) Slot.unset).toArray = ls at hl ⊢
  have hl : lv_has ls 4 (zlv g [(0, .ref 1004)]) := by
    show lv_has ls 4 [(0, .ref (zgS g 4))]
    rw [g4]; exact hl
  have hRep : zRep g (zIl [], zL0, zRl [], 0) s.heap := ⟨by rw [g1]; rfl, fun a ha => absurd ha (Nat.not_lt_zero _), fun q hq => by rw [g2]⟩
  have h := zRunLaw (g := g) (l := l) (d := 1000) (Q := fun v _ => v = some (.int 1)) (by decide) (by rw [g3]; omega) (fun _ _ _ _ _ _ => rfl) p e room_1 s m #[.ref b] below meth c s.heap [] ls ⟨hx, hb, hml, hr, hlocks, hnm, hown, fun x hx => hts x (List.mem_filter.mp hx).1, hSt, ⟨Nat.le_of_ble_eq_true rfl, Nat.le_of_ble_eq_true rfl⟩, Nat.le_of_ble_eq_true rfl, zS100⟩ hRep (fun q hq => by cases hq) hl
  intro T hT X
  obtain ⟨t, st, o, r1, r2, ⟨v, w, ho, hn, hQ, hR⟩, J, hF, hJ⟩ := h T hT X
  refine ⟨t, st, o, r1, r2, ?_, ?_⟩
  · rw [ho, hQ]; rfl
  · obtain ⟨f1, f2, f3⟩ := hF
    exact ⟨f1, f2, (State.sameButNew.drop_fresh (L := []) (J := J) f3 (fun x hx => by rw [← g1]; exact hJ x hx)).mono (Nat.le_of_ble_eq_true rfl) zS100⟩
-- ===== YOUR PART ENDS =====
set_option maxHeartbeats 4000000 in
theorem lw_wholewalk (l : Launch) (hflags : l.flags = flags0) (b : Addr) (xs : List Int32) : MetFree l x (headSpec (Jvm.Cond.code x code maxLocals ret :: tables_1) room_1) (lw_P b xs) (fun _ _ _ _ _ => True) lw_Q := by
  refine MetFree.of_bodyS (code := code) (maxLocals := maxLocals) (ret := ret) (by decide) ?_ ?_
  · intro args s m h hn
    obtain ⟨meth, c, h1, h2, h3, h4, h5, h6, -, -⟩ := Cond.code_spec hn (atoms_spec (ws := Jvm.Cond.code x code maxLocals ret :: tables_1) h _ List.mem_cons_self)
    exact ⟨meth, c, h1, h2, h3, h4, h5, h6⟩
  · intro p e s m args below meth c s₁ B hml0 hP _
    obtain ⟨rfl, hx, hbd, hgv⟩ := hP
    obtain ⟨scr, harrAt, hlist, hof, hsmall⟩ := hx
    obtain ⟨hcb, hkn, -, -⟩ := State.arrayAt?_spec harrAt
    have hown : s.vm.findClass R_law = some m.cls := findClass_of_methodNamed B.named
    have hts0 : ∀ c ∈ (Jvm.Cond.code x code maxLocals ret :: tables_1), c.before #[Value.ref b] s = true := atoms_spec (ws := Jvm.Cond.code x code maxLocals ret :: tables_1) B.pre
    have hts : ∀ w ∈ lw_tbl, w.before #[Value.ref b] s = true := k2_hts_sels lw_privs (fun w hw => hts0 w (List.mem_cons_of_mem _ hw)) lw_privs_ok
    have hml : c.maxLocals = 4 := B.maxLocals_eq (hts0 _ List.mem_cons_self)
    have X₀ : Stand p l e room_1 s m #[Value.ref b] below meth c s₁ [] 0 0 := Stand.of_body B
    have hh0 : s₁.heap = s.heap := by rw [B.state]; rfl
    have hsz : scr.slots.size = xs.length := by rw [← Array.length_toList, hlist, List.length_map]
    have hval : ∀ j : Nat, j < xs.length → scr.slots[j]? = some (.int (xs.getD j 0)) := fun j hj => by
      rw [← Array.getElem?_toList, hlist]
      simp [hj]
    have hbl : b < s.heap.size := (Array.getElem?_eq_some_iff.mp hcb).1
    have hX : va_X b xs.length (fun j => xs.getD j 0) s s.heap := ⟨scr, hcb, hof, hkn, hsz, hval⟩
    have K : W p l e room_1 s m #[Value.ref b] below meth c s₁.heap [] 0 0 (lw_Z below #[Value.ref b] s) (entryFrame m ([Value.ref b] : List Value).toArray 4) := by
      rw [hh0]
      exact whole_start l hflags hbd ⟨B.exec, B.bytes, B.returns, hml, hown, hts, hX, hbl, B.notSynchronized, hgv, (name_of_methodNamed B.named B.method).1⟩
    obtain ⟨t, a1, o, b1, b2, b3⟩ := K s₁ rfl X₀
    exact ⟨t, o, a1, b1, b2, b3⟩
theorem lw_pre_spec {args : Array Value} {s : State} (h : (Jvm.Cond.and given_1 narrow_1).before args s = true) (hr : rest_1_c.before args s = true) : ∃ (b : Addr) (xs : List Int32), lw_P b xs args s := by
  have hs := flat_of_before _ h
  have hq := flat_of_before _ hr
  have hc : (Cond.count 1).before args s = true := hs _ (by decide +kernel)
  have harr : (Cond.arrayOf (.arg 0) .int).before args s = true := hs _ (by decide +kernel)
  have hle : (Cond.le (.length (.arg 0)) (.int 3072)).before args s = true := hs _ (by decide +kernel)
  have hlen : (Cond.isInt (.length (.arg 0))).before args s = true := hq _ (by decide +kernel)
  have hall : (Cond.all (.arg 0) (.isInt (.elem (.arg 0) (.index 0)))).before args s = true := hq _ (by decide +kernel)
  obtain ⟨b, xs, hb, hx⟩ := State.ints_of_pre rfl harr hlen hall
  have hsm : xs.length < 2 ^ 31 := hx.choose_spec.2.2.2
  have hev : (Term.length (.arg 0)).eval args s none [] s = some (.int xs.length.toInt32) := hx.length_eval hb
  have hv := Cond.le_ints hev (show (Term.int 3072).eval args s none [] s = some (.int 3072) from rfl)
  have hd : xs.length.toInt32 ≤ 3072 := by
    simpa [Cond.before, Cond.holds, hv] using hle
  have hN : xs.length ≤ 3072 := (Int32.ofNat_le_ofNat hsm (by decide)).mp (show Int32.ofNat xs.length ≤ Int32.ofNat 3072 from hd)
  exact ⟨b, xs, Cond.one_arg hc (show args[0]? = some (.ref b) from hb), hx, hN, h⟩
theorem lw_comes (l : Launch) (hflags : l.flags = flags0) : Comes l x (Jvm.Cond.code x code maxLocals ret :: tables_1) room_1 (fun tb e args s => Calls_1 tb e args s ∧ rest_1 tb e args s ∧ Pre_1 tb e args s)
    (fun _ _ args s o t => lw_Q args s o t) := by
  intro p e ha hc hk s m args below hf hfit hheap happ hpre
  obtain ⟨b, xs, hP⟩ := lw_pre_spec hpre.2.2 hpre.2.1
  obtain ⟨k, o, h1, h2, h3, hQ⟩ := lw_wholewalk l hflags b xs p e ha hc hk s m args below hf ((Spec.applies_iff_loose hf).mp happ).1 hP trivial
  exact ⟨k, o, h1, h2, h3, hQ⟩
theorem lw_frame {s t : State} {o : Outcome} {args : Array Value} (h : Framed s o t [] 600000 7302250) :
    Framed s o t (fieldLocs frame_1_writes args s ++ arrayLocs frame_1_arrays args s ++ staticLocs frame_1_statics s) 600000 7302250 := h
theorem lw_limb (L : Cond) (hL : ∀ (args : Array Value) (s t : State), L.after args s (.returned (some (.int 1))) t = true) :
    ArmFor flags0 classFile x code maxLocals ret World_1 tables_1 room_1 Calls_1 rest_1 Pre_1
      (fun tb e a s o t => postC L tb e a s o t ∧ Framed s o t (fieldLocs frame_1_writes a s ++ arrayLocs frame_1_arrays a s ++ staticLocs frame_1_statics s) 600000 7302250) := by
  intro l hflags _ _ p e ha hc hk s m args below hf hfit hheap happ hpre
  obtain ⟨k, o, h1, h2, h3, rfl, hF⟩ := lw_comes l hflags p e ha hc hk s m args below hf hfit hheap happ hpre
  exact ⟨k, _, h1, h2, h3, hL args s _, lw_frame hF⟩
theorem i_vc : Claimed_1_1 ∧ Claimed_1_2 := ⟨lw_limb limb_1_1 (fun args s t => by simp [limb_1_1, Cond.after, Cond.holds, Cond.value]), lw_limb limb_1_2 (fun args s t => Cond.after_iff.mpr (by
  first | (rw [show limb_1_2 = Cond.eq .result (.int 1) from rfl, Cond.eq_ints (x := 1) (y := 1) rfl rfl]; simp; done) | (simp [limb_1_2, Cond.value, Term.eval]; done)))⟩

