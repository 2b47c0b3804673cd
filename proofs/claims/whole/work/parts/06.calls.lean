section ZC
variable {g : zG} {l : Launch} {d n0 n1 : Nat} {M : zM} {w : zW} {I : Nat → Nat → Int32} {L : Nat → Nat → Int64} {R : Nat → Nat → Option Nat} {n pc q : Nat} {lv : List (Nat × Value)} {st : List Value} {Q : Option Value → zW → Prop}
theorem zPc_blind {av : List Value} : FrameBlind (va_Pc (av.map (zrv g)) (fun U => zRep g w U.heap ∧ zSt g U)) := fun a U gf mk h => ⟨h.1, h.2.1, zSt_same (u := U) (U := U.calling gf mk a) rfl h.2.2⟩
/-- behind a call's run -/
theorem zAfter {p : Program} {e : Env} {Rm : Room} {s : State} {m : MethodId} {args : Array Value} {below : List Frame} {meth : Method} {c : Code} {H : Heap} {locs : List Loc} {ls : Array Slot} {st0 rest : List Value} {a : Array Value} {n2 : Nat} {Q' : Option Value → zW → Prop}
    (C : zCtx g d n0 n1 M p Rm s m args meth c) (hL : ∀ q ∈ locs, zgB g ≤ q.base) (hl : lv_has ls (zmn M) (zlv g lv)) (h0 : n0 ≤ w.2.2.2) (h1 : w.2.2.2 ≤ n2)
    (hr : va_Run p l e Rm s m args below meth c H locs (w.2.2.2 - n0) (zS w.2.2.2 - zS n0) (n2 - w.2.2.2) (zS n2 - zS w.2.2.2) (F0 m pc ls st0) (rest.map (zrv g)) (zQc g n2 Q' a) (fun q => zgB g ≤ q))
    (kk : ∀ (v : Option Value) (w' : zW), w'.2.2.2 = n2 → Q' v w' → zAW g l d n0 n1 M w' (pc + 3) lv (v.toList ++ rest) Q) :
    W p l e Rm s m args below meth c H locs (w.2.2.2 - n0) (zS w.2.2.2 - zS n0) (MQ below (zQc g n1 Q) args s (n1 - n0) (zS n1 - zS n0) (fun q => zgB g ≤ q)) (F0 m pc ls st0) := by
  intro T hT X
  obtain ⟨v, st₀, t, T', L, e0, X', hL', e1, e2, ⟨v', w', hv, hn, hQ, hR'⟩, st⟩ := hr T hT X
  cases hv
  have hz1 := zS_le h0
  have hz2 := zS_le h1
  have X2 : Stand p l e Rm s m args below meth c T' (locs ++ L) (w'.2.2.2 - n0) (zS w'.2.2.2 - zS n0) := by
    rw [hn]
    have ec : n2 - n0 = (w.2.2.2 - n0) + (n2 - w.2.2.2) := by omega
    have es : zS n2 - zS n0 = (zS w.2.2.2 - zS n0) + (zS n2 - zS w.2.2.2) := by omega
    rw [ec, es]
    exact X'
  obtain ⟨t2, a1, b1⟩ := kk v' w' hn hQ p e Rm s m args below meth c T'.heap (locs ++ L) ls C (by rw [e1]; exact hR') (fun q hq => by
      rcases List.mem_append.mp hq with h | h
      · exact hL q h
      · exact hL' q h) hl T' rfl X2
  refine ⟨t2, st t2 ?_, b1⟩
  have el : (v'.map (zrv g)).toList ++ rest.map (zrv g) = (v'.toList ++ rest).map (zrv g) := by cases v' <;> simp
  rw [el]
  exact a1
def zNs (n0 n n2 n1 : Nat) : Prop := n0 ≤ n ∧ n ≤ n2 ∧ n2 ≤ n1
theorem zroom {Rm : Room} {a b c e : Nat} (h : a ≤ b ∧ b ≤ c ∧ c ≤ e) (hc : e - a ≤ Rm.cells) (hs : zS e - zS a ≤ Rm.slots) : (b - a) + (c - b) ≤ Rm.cells ∧ (zS b - zS a) + (zS c - zS b) ≤ Rm.slots := by
  have h1 := zS_le h.1
  have h2 := zS_le h.2.1
  have h3 := zS_le h.2.2
  omega
theorem zCallV {M' : zM} {idx d' n2 kd len a ar : Nat} {As rest : List Value} {Q' : Option Value → zW → Prop} (hd : decode (zmc M) pc = .ok (.invokevirtual idx, 3)) (hl0 : Cond.methodLink (zmo M) idx (zmy M') ∈ zWT) (hk : zMk M' ar) (hi : Cond.instanceMethod (zmy M') ∈ zWT) (hsl : Cond.selects (zmy M').cls (zmy M') (zmy M') ∈ zWT)
    (hS : zSp g l d' n2 M' (.ref a :: As) (I, L, R, n) Q') (hst : st = As.reverse ++ .ref a :: rest) (har : As.length = ar) (hs : zsh a = (kd, len)) (hkd : kd < 13) (hcl : zcR kd = zmo M') (ha : a < n) (hcat : (rest.map fun v => v.category).sum ≤ 8) (hml : zmn M' ≤ 45) (hd' : d' + 1 ≤ d) (hn : zNs n0 n n2 n1) (hq : q = pc + 3)
    (kk : ∀ (v : Option Value) (w' : zW), w'.2.2.2 = n2 → Q' v w' → zAW g l d n0 n1 M w' q lv (v.toList ++ rest) Q) : zAW g l d n0 n1 M (I, L, R, n) pc lv st Q := by
  subst hq
  subst hst
  intro p e Rm s m args below meth c H locs ls C hR hL hl
  obtain ⟨hx, hb, hml', -, -, -, hown, hts, hSt, ⟨hfr, hlo⟩, hce, hsl2⟩ := id C
  obtain ⟨kc, ki, kp, kn, kpar, ko⟩ := hk
  have hgood : GoodIn zWT (wsV (zmo M) idx (zmy M').cls (zmy M') (.code (zmy M') (zmc M') (zmn M') (zmr M') :: zWT)) := zGood (fun w hw => by
    unfold wsV at hw
    rcases List.mem_append.mp hw with h | h
    · rcases List.mem_cons.mp h with rfl | h
      · exact hl0
      rcases List.mem_cons.mp h with rfl | h
      · exact hi
      rcases List.mem_cons.mp h with rfl | h
      · exact hsl
      rcases List.mem_cons.mp h with rfl | h
      · exact ki
      · cases h
    · rcases List.mem_cons.mp h with rfl | h
      · exact kc
      · exact h)
  have hroom := zroom hn hce hsl2
  refine zAfter (w := (I, L, R, n)) C hL hl hn.1 hn.2.1 (va_runV (Ts := zWT) (own := zmo M) (C := (zmy M').cls) (n := ar) (rest := rest.map (zrv g)) ⟨hx, hb, hml', hown, hts⟩ hS (cwV ar hts hgood rfl rfl rfl ⟨rfl, kn.1, kn.2, kpar⟩ ⟨Nat.le_trans hd' hfr, Nat.le_trans (by show 8 + (zmn M' + 11) + 64 * d' ≤ 64 * d; omega) hlo⟩) ⟨zPc_blind, ?_, fun U hU hW => ⟨rfl, by rw [hU]; exact hR, zSt_warm hW hSt⟩⟩ rfl (by rw [List.length_map]; exact har) hl.1 ?_ (lv_room ?_) hd hroom) kk
  · obtain ⟨cell, q1, q2, q3, -⟩ := zcell_o (hR.2.1 a ha) hs hkd
    refine ⟨cell, by show H[zad g a]? = _; rw [zad_lt hs (Nat.lt_trans hkd (by decide))]; exact q1, by rw [q3]; rfl, ?_⟩
    rw [q2, ← ko, ← hcl]
    exact (hSt.1.1 kd _ (zc_at hkd)).2.1
  · show (As.reverse ++ .ref a :: rest).map (zrv g) = _
    rw [List.map_append, List.map_reverse]
    rfl
  · have e : ((rest.map (zrv g)).map fun v => v.category) = rest.map fun v => v.category := by rw [List.map_map]; exact List.map_congr_left (fun v _ => zrv_cat g v)
    rw [e]; exact hcat
theorem zCallS {M' : zM} {idx d' n2 ar : Nat} {As rest : List Value} {Q' : Option Value → zW → Prop} (hd : decode (zmc M) pc = .ok (.invokestatic idx, 3)) (hl0 : Cond.methodLink (zmo M) idx (zmy M') ∈ zWT) (hk : zMk M' ar) (hstc : Cond.static (zmy M') ∈ zWT)
    (hS : zSp g l d' n2 M' As (I, L, R, n) Q') (hst : st = As.reverse ++ rest) (har : As.length = ar) (hcat : (rest.map fun v => v.category).sum ≤ 8) (hml : zmn M' ≤ 45) (hd' : d' + 1 ≤ d) (hn : zNs n0 n n2 n1) (hq : q = pc + 3)
    (kk : ∀ (v : Option Value) (w' : zW), w'.2.2.2 = n2 → Q' v w' → zAW g l d n0 n1 M w' q lv (v.toList ++ rest) Q) : zAW g l d n0 n1 M (I, L, R, n) pc lv st Q := by
  subst hq
  subst hst
  intro p e Rm s m args below meth c H locs ls C hR hL hl
  obtain ⟨hx, hb, hml', -, -, -, hown, hts, hSt, ⟨hfr, hlo⟩, hce, hsl2⟩ := id C
  obtain ⟨kc, ki, kp, kn, kpar, ko⟩ := hk
  have hgood : GoodIn zWT (va_wsS (zmo M) idx (zmy M') (.code (zmy M') (zmc M') (zmn M') (zmr M') :: zWT)) := zGood (fun w hw => by
    unfold va_wsS at hw
    rcases List.mem_append.mp hw with h | h
    · rcases List.mem_cons.mp h with rfl | h
      · exact hl0
      rcases List.mem_cons.mp h with rfl | h
      · exact hstc
      rcases List.mem_cons.mp h with rfl | h
      · exact ki
      · cases h
    · rcases List.mem_cons.mp h with rfl | h
      · exact kc
      · exact h)
  have hroom := zroom hn hce hsl2
  refine zAfter (w := (I, L, R, n)) C hL hl hn.1 hn.2.1 (va_runS (Ts := zWT) (own := zmo M) (n := ar) (rest := rest.map (zrv g)) ⟨hx, hb, hml', hown, hts⟩ hS (va_cwS ar hts hgood rfl rfl rfl ⟨kn.1, kn.2, kpar⟩ ⟨Nat.le_trans hd' hfr, Nat.le_trans (by show 8 + (zmn M' + 11) + 64 * d' ≤ 64 * d; omega) hlo⟩) ⟨zPc_blind, fun U hU hW => ⟨rfl, by rw [hU]; exact hR, zSt_warm hW hSt⟩⟩ rfl (by rw [List.length_map]; exact har) hl.1 ?_ (lv_room ?_) hd hroom) kk
  · show (As.reverse ++ rest).map (zrv g) = _
    rw [List.map_append, List.map_reverse]
  · have e : ((rest.map (zrv g)).map fun v => v.category) = rest.map fun v => v.category := by rw [List.map_map]; exact List.map_congr_left (fun v _ => zrv_cat g v)
    rw [e]; exact hcat
theorem zCallI {M' : zM} {idx d' n2 a ar : Nat} {As rest : List Value} {Q' : Option Value → zW → Prop} (hd : decode (zmc M) pc = .ok (.invokespecial idx, 3)) (hl0 : Cond.methodLink (zmo M) idx (zmy M') ∈ zWT) (hk : zMk M' ar) (hi : Cond.instanceMethod (zmy M') ∈ zWT) (hin : (zmy M').name = "<init>") (hret : zmr M' = none)
    (hS : zSp g l d' n2 M' (.ref a :: As) (I, L, R, n) Q') (hst : st = As.reverse ++ .ref a :: rest) (har : As.length = ar) (hcat : (rest.map fun v => v.category).sum ≤ 8) (hml : zmn M' ≤ 45) (hd' : d' + 1 ≤ d) (hn : zNs n0 n n2 n1) (hq : q = pc + 3)
    (kk : ∀ (v : Option Value) (w' : zW), w'.2.2.2 = n2 → Q' v w' → zAW g l d n0 n1 M w' q lv (v.toList ++ rest) Q) : zAW g l d n0 n1 M (I, L, R, n) pc lv st Q := by
  subst hq
  subst hst
  intro p e Rm s m args below meth c H locs ls C hR hL hl
  obtain ⟨hx, hb, hml', -, -, -, hown, hts, hSt, ⟨hfr, hlo⟩, hce, hsl2⟩ := id C
  obtain ⟨kc, ki, kp, kn, kpar, ko⟩ := hk
  have hgood : GoodIn zWT (.code (zmy M') (zmc M') (zmn M') (zmr M') :: zWT) := zGood (fun w hw => by
    rcases List.mem_cons.mp hw with rfl | h
    · exact kc
    · exact h)
  have hroom := zroom hn hce hsl2
  refine zAfter (w := (I, L, R, n)) C hL hl hn.1 hn.2.1 (va_runI (Ts := zWT) (own := zmo M) (b := zad g a) (n := ar) (rest := rest.map (zrv g)) ⟨hx, hb, hml', hown, hts⟩ hS (cwI ar hts hgood (by rw [hret]) rfl rfl (hts _ ki) (hts _ hl0) (hts _ hi) hin ⟨kn.1, kn.2, kpar⟩ ⟨Nat.le_trans hd' hfr, Nat.le_trans (by show 8 + (zmn M' + 11) + 64 * d' ≤ 64 * d; omega) hlo⟩) ⟨zPc_blind, fun U hU hW => ⟨rfl, by rw [hU]; exact hR, zSt_warm hW hSt⟩⟩ rfl (by rw [List.length_map]; exact har) hl.1 ?_ (lv_room ?_) hd hroom) kk
  · show (As.reverse ++ .ref a :: rest).map (zrv g) = _
    rw [List.map_append, List.map_reverse]
    rfl
  · have e : ((rest.map (zrv g)).map fun v => v.category) = rest.map fun v => v.category := by rw [List.map_map]; exact List.map_congr_left (fun v _ => zrv_cat g v)
    rw [e]; exact hcat
theorem zCallN {M' : zM} {idx d' n2 a ar : Nat} {As rest : List Value} {Q' : Option Value → zW → Prop} (hd : decode (zmc M) pc = .ok (.invokespecial idx, 3)) (how : zmo M = RX11) (hl0 : (idx, zmy M') ∈ zNW) (hk : zMk M' ar) (hi : Cond.instanceMethod (zmy M') ∈ zWT) (hin : (zmy M').name = "<init>") (hret : zmr M' = none)
    (hS : zSp g l d' n2 M' (.ref a :: As) (I, L, R, n) Q') (hst : st = As.reverse ++ .ref a :: rest) (har : As.length = ar) (hcat : (rest.map fun v => v.category).sum ≤ 8) (hml : zmn M' ≤ 45) (hd' : d' + 1 ≤ d) (hn : zNs n0 n n2 n1) (hq : q = pc + 3)
    (kk : ∀ (v : Option Value) (w' : zW), w'.2.2.2 = n2 → Q' v w' → zAW g l d n0 n1 M w' q lv (v.toList ++ rest) Q) : zAW g l d n0 n1 M (I, L, R, n) pc lv st Q := by
  subst hq
  subst hst
  intro p e Rm s m args below meth c H locs ls C hR hL hl
  obtain ⟨hx, hb, hml', -, -, -, hown, hts, hSt, ⟨hfr, hlo⟩, hce, hsl2⟩ := id C
  obtain ⟨kc, ki, kp, kn, kpar, ko⟩ := hk
  have hgood : GoodIn zWT (.code (zmy M') (zmc M') (zmn M') (zmr M') :: zWT) := zGood (fun w hw => by
    rcases List.mem_cons.mp hw with rfl | h
    · exact kc
    · exact h)
  have hroom := zroom hn hce hsl2
  have hcn := va_cnB (R := Rm) (own := zmo M) (host := RX11) (mc := n2 - n) (ms := zS n2 - zS n) (rm := ({ frames := d', cells := n2 - n, slots := zS n2 - zS n, locals := 64 * d' } : Room)) ar hts hgood rfl rfl rfl (by rw [how]; exact hSt.2.1 _ hl0) (hts _ ki) ⟨kn.1, kn.2, kpar⟩ ⟨Nat.le_trans hd' hfr, Nat.le_trans (by show 8 + (zmn M' + 11) + 64 * d' ≤ 64 * d; omega) hlo⟩
  rw [hret] at hcn
  refine zAfter (w := (I, L, R, n)) C hL hl hn.1 hn.2.1 (va_runIN (Ts := zWT) (own := zmo M) (host := RX11) (b := zad g a) (n := ar) (rest := rest.map (zrv g)) ⟨hx, hb, hml', hown, hts⟩ hS ⟨by rw [hret]; exact hcn, hin, hts _ hi⟩ ⟨zPc_blind, fun U hU hW => ⟨rfl, by rw [hU]; exact hR, zSt_warm hW hSt⟩⟩ rfl (by rw [List.length_map]; exact har) hl.1 ?_ (lv_room ?_) hd hroom) kk
  · show (As.reverse ++ .ref a :: rest).map (zrv g) = _
    rw [List.map_append, List.map_reverse]
    rfl
  · have e : ((rest.map (zrv g)).map fun v => v.category) = rest.map fun v => v.category := by rw [List.map_map]; exact List.map_congr_left (fun v _ => zrv_cat g v)
    rw [e]; exact hcat
/-- a call that leaves the world as it is -/
def zP (x : Value) (w : zW) : Option Value → zW → Prop := fun v w' => v = some x ∧ w' = w
theorem zCallVP {M' : zM} {idx d' kd len a ar : Nat} {As rest : List Value} {x : Value} (hd : decode (zmc M) pc = .ok (.invokevirtual idx, 3)) (hl0 : Cond.methodLink (zmo M) idx (zmy M') ∈ zWT) (hk : zMk M' ar) (hi : Cond.instanceMethod (zmy M') ∈ zWT) (hsl : Cond.selects (zmy M').cls (zmy M') (zmy M') ∈ zWT)
    (hS : zSp g l d' n M' (.ref a :: As) (I, L, R, n) (zP x (I, L, R, n))) (hst : st = As.reverse ++ .ref a :: rest) (har : As.length = ar) (hs : zsh a = (kd, len)) (hkd : kd < 13) (hcl : zcR kd = zmo M') (ha : a < n) (hcat : (rest.map fun v => v.category).sum ≤ 8) (hml : zmn M' ≤ 45) (hd' : d' + 1 ≤ d) (hn : zNs n0 n n n1) (hq : q = pc + 3)
    (kk : zAW g l d n0 n1 M (I, L, R, n) q lv (x :: rest) Q) : zAW g l d n0 n1 M (I, L, R, n) pc lv st Q :=
  zCallV hd hl0 hk hi hsl hS hst har hs hkd hcl ha hcat hml hd' hn hq (fun v w' _ h => by obtain ⟨rfl, rfl⟩ := h; exact kk)
theorem zCallSP {M' : zM} {idx d' ar : Nat} {As rest : List Value} {x : Value} (hd : decode (zmc M) pc = .ok (.invokestatic idx, 3)) (hl0 : Cond.methodLink (zmo M) idx (zmy M') ∈ zWT) (hk : zMk M' ar) (hstc : Cond.static (zmy M') ∈ zWT)
    (hS : zSp g l d' n M' As (I, L, R, n) (zP x (I, L, R, n))) (hst : st = As.reverse ++ rest) (har : As.length = ar) (hcat : (rest.map fun v => v.category).sum ≤ 8) (hml : zmn M' ≤ 45) (hd' : d' + 1 ≤ d) (hn : zNs n0 n n n1) (hq : q = pc + 3)
    (kk : zAW g l d n0 n1 M (I, L, R, n) q lv (x :: rest) Q) : zAW g l d n0 n1 M (I, L, R, n) pc lv st Q :=
  zCallS hd hl0 hk hstc hS hst har hcat hml hd' hn hq (fun v w' _ h => by obtain ⟨rfl, rfl⟩ := h; exact kk)
theorem zMax {idx : Nat} {x y : Int32} (hd : decode (zmc M) pc = .ok (.invokestatic idx, 3)) (hl0 : Cond.methodLink (zmo M) idx (zmy m_J9_max) ∈ zWT) (h0 : 1 ≤ d) (hcat : (st.map fun v => v.category).sum ≤ 8) (hw : n0 ≤ w.2.2.2 ∧ w.2.2.2 ≤ n1) (hq : q = pc + 3) (kk : zAW g l d n0 n1 M w q lv (.int (if x < y then y else x) :: st) Q) : zAW g l d n0 n1 M w pc lv (.int y :: .int x :: st) Q := by
  subst hq
  intro p e Rm s m args below meth c H locs ls C hR hL hl
  obtain ⟨hx, hb, hml', -, -, -, hown, hts, hSt, ⟨hfr, hlo⟩, hce, hsl2⟩ := id C
  have hc1 : w.2.2.2 - n0 ≤ Rm.cells := by have := hw.2; omega
  have hs1 : zS w.2.2.2 - zS n0 ≤ Rm.slots := by have := zS_le hw.2; omega
  have ee : ((st.map (zrv g)).map fun v => v.category) = st.map fun v => v.category := by rw [List.map_map]; exact List.map_congr_left (fun v _ => zrv_cat g v)
  exact va_mmax hx hb (hml'.trans hl.1.symm) hown (hts _ hl0) (hts _ kt_J9_max) (hts _ it_J9) (hts _ kc_J9_max) (Nat.le_trans h0 hfr) (by rw [ee]; omega) hc1 hs1 hd (kk p e Rm s m args below meth c H locs ls C hR hL hl)
theorem zMin {idx : Nat} {x y : Int32} (hd : decode (zmc M) pc = .ok (.invokestatic idx, 3)) (hl0 : Cond.methodLink (zmo M) idx (zmy m_J9_min) ∈ zWT) (h0 : 1 ≤ d) (hcat : (st.map fun v => v.category).sum ≤ 8) (hw : n0 ≤ w.2.2.2 ∧ w.2.2.2 ≤ n1) (hq : q = pc + 3) (kk : zAW g l d n0 n1 M w q lv (.int (if y < x then y else x) :: st) Q) : zAW g l d n0 n1 M w pc lv (.int y :: .int x :: st) Q := by
  subst hq
  intro p e Rm s m args below meth c H locs ls C hR hL hl
  obtain ⟨hx, hb, hml', -, -, -, hown, hts, hSt, ⟨hfr, hlo⟩, hce, hsl2⟩ := id C
  have hc1 : w.2.2.2 - n0 ≤ Rm.cells := by have := hw.2; omega
  have hs1 : zS w.2.2.2 - zS n0 ≤ Rm.slots := by have := zS_le hw.2; omega
  have ee : ((st.map (zrv g)).map fun v => v.category) = st.map fun v => v.category := by rw [List.map_map]; exact List.map_congr_left (fun v _ => zrv_cat g v)
  exact va_mmin hx hb (hml'.trans hl.1.symm) hown (hts _ hl0) (hts _ kt_J9_min) (hts _ it_J9) (hts _ kc_J9_min) (Nat.le_trans h0 hfr) (by rw [ee]; omega) hc1 hs1 hd (kk p e Rm s m args below meth c H locs ls C hR hL hl)
end ZC
