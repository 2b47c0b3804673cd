/-! WHAT IS MADE: objects, rows -/
/-- a field's type, where it begins as null or 0 -/
def zdf (t : FieldType) : Bool := match t with
  | .object _ => true
  | .array _ => true
  | .int => true
  | .boolean => true
  | _ => false
theorem zdef {kd j : Nat} (hk : kd < 13) (hj : j < zcN kd) : zdf (zcY kd j) = true :=
  zk13 (P := fun k => ∀ j, j < zcN k → zdf (zcY k j) = true) (by decide +kernel) (by decide +kernel) (by decide +kernel) (by decide +kernel) (by decide +kernel) (by decide +kernel) (by decide +kernel) (by decide +kernel) (by decide +kernel) (by decide +kernel) (by decide +kernel) (by decide +kernel) (by decide +kernel) hk j hj
theorem zfv_new {g : zG} {i : Nat → Int32} {r : Nat → Option Nat} {kd j : Nat} (hI : i j = 0) (hR : r j = none) (h : zdf (zcY kd j) = true) : defaultValue (zcY kd j) = zfv g i r kd j := by
  unfold zfv zrf
  rw [hI, hR]
  generalize zcY kd j = t at h ⊢
  cases t <;> first | rfl | exact absurd h (by decide)
section S94
variable {g : zG} {l : Launch} {d n0 n1 : Nat} {M : zM} {I : Nat → Nat → Int32} {L : Nat → Nat → Int64} {R : Nat → Nat → Option Nat} {n pc q : Nat} {lv : List (Nat × Value)} {st : List Value} {Q : Option Value → zW → Prop}
theorem zObj {idx a : Nat} {w : zW} (hd : decode (zmc M) pc = .ok (.invokespecial idx, 3)) (hl0 : Cond.methodLink (zmo M) idx objectInit ∈ zWT) (hd1 : 1 ≤ d) (hcat : (st.map fun v => v.category).sum ≤ 8) (hq : q = pc + 3) (kk : zAW g l d n0 n1 M w q lv st Q) : zAW g l d n0 n1 M w pc lv (.ref a :: st) Q := by
  subst hq
  intro p e Rm s m args below meth c H locs ls C hR hL hl
  obtain ⟨hx, hb, hml', -, -, -, hown, hts, hSt, ⟨hfr, hlo⟩, hce, hsl2⟩ := id C
  refine W.objInit hx hb hown (hts _ hl0) (hts _ ob_inst) (hts _ ob_code) rfl (by rw [hml']; exact hl.1) rfl hd (Nat.le_trans hd1 hfr) ?_ (kk p e Rm s m args below meth c H locs ls C hR hL hl)
  have e1 : ((st.map (zrv g)).map fun v => v.category) = st.map fun v => v.category := by rw [List.map_map]; exact List.map_congr_left (fun v _ => zrv_cat g v)
  have h8 := lv_room (m := m) (pc := pc) (ls := ls) (rest := .ref (zad g a) :: st.map (zrv g)) (st := st.map (zrv g)) (by rw [e1]; exact hcat)
  have h9 : 2 * (F0 m pc ls (.ref (zad g a) :: st.map (zrv g))).monitorRoom + ((st.map (zrv g)).map fun v => v.category).sum ≤ 8 := h8
  show 2 * (F0 m pc ls (.ref (zad g a) :: st.map (zrv g))).monitorRoom + ((st.map (zrv g)).map fun v => v.category).sum + 12 ≤ Rm.locals
  omega
/-- one cell more -/
theorem zRep_push {H H1 : Heap} (hR : zRep g (I, L, R, n) H) (z1 : H1.size = zgB g + n + 1) (o1 : ∀ q : Nat, q < zgB g + n → H1[q]? = H[q]?) (hc : zcell g (I n) (L n) (R n) n H1) : zRep g (I, L, R, n + 1) H1 := by
  refine ⟨z1, fun a ha => ?_, fun q hq => (o1 q (by omega)).trans (hR.2.2 q hq)⟩
  by_cases e : a = n
  · subst e; exact hc
  · have ha : a < n + 1 := ha
    exact zcell_kept (hR.2.1 a (show a < n by omega)) (o1 _ (by omega))
theorem zroom1 {Rm : Room} {len : Nat} (hs : (zsh n).2 = len) (hn : n0 ≤ n ∧ n < n1) (hce : n1 - n0 ≤ Rm.cells) (hsl : zS n1 - zS n0 ≤ Rm.slots) : (n - n0) + 1 ≤ Rm.cells ∧ (zS n - zS n0) + len ≤ Rm.slots ∧ n + 1 - n0 = (n - n0) + 1 ∧ zS (n + 1) - zS n0 = (zS n - zS n0) + len := by
  have hz1 := zS_le hn.1
  have hz2 : zS (n + 1) ≤ zS n1 := zS_le hn.2
  have es : zS (n + 1) = zS n + len := by show zS n + (zsh n).2 = _; rw [hs]
  omega
theorem zNew {idx kd : Nat} (hd : decode (zmc M) pc = .ok (.new idx, 3)) (hcl : Cond.classLink (zmo M) idx (zcR kd) ∈ zWT) (hin : Cond.instantiable (zcR kd) (zcN kd) ∈ zWT) (hini : Cond.initialized (zcR kd) ∈ zWT) (hkd : kd < 13) (hs : zsh n = (kd, zcN kd)) (hI : ∀ k, I n k = 0) (hRn : ∀ k, R n k = none) (hn : n0 ≤ n ∧ n < n1) (hq : q = pc + 3)
    (kk : zAW g l d n0 n1 M (I, L, R, n + 1) q lv (.ref n :: st) Q) : zAW g l d n0 n1 M (I, L, R, n) pc lv st Q := by
  subst hq
  intro p e Rm s m args below meth c H locs ls C hR hL hl
  obtain ⟨hx, hb, hml', -, -, -, hown, hts, hSt, -, hce, hsl2⟩ := id C
  have hKn := hSt.1.1 kd _ (zc_at hkd)
  obtain ⟨r1, r2, r3, r4⟩ := zroom1 (len := zcN kd) (by rw [hs]) hn hce hsl2
  refine W.newcK hx hb hown (hts _ hcl) (hts _ hin) (hts _ hini) rfl hd r1 r2 hKn.2.1 (h := zgB g + n) hR.1 fun H1 kC hkC e1 z1 o1 => ?_
  have h := kk p e Rm s m args below meth c H1 locs ls C (zRep_push hR z1 o1 (zcell_oi hs hkd ((u_born (zcY kd) hts (zc_in hkd) hKn hkC e1 (zc_ty hkd)).to (fun j hj => zfv_new (hI j) (hRn j) (zdef hkd hj))))) hL hl
  have h2 : W p l e Rm s m args below meth c H1 locs (n + 1 - n0) (zS (n + 1) - zS n0) (MQ below (zQc g n1 Q) args s (n1 - n0) (zS n1 - zS n0) (fun q => zgB g ≤ q)) (F0 m (pc + 3) ls (.ref (zad g n) :: st.map (zrv g))) := h
  rw [r3, r4, zad_lt hs (Nat.lt_trans hkd (by decide))] at h2
  exact h2
theorem zNewA {at_ : ArrayType} {kd t len : Nat} {x : Int32} (hd : decode (zmc M) pc = .ok (.newarray at_, 2)) (hac : Cond.arrayClass (newarray.typeOf at_) ∈ zWT) (hty : (ztys g)[t]? = some (zgA g kd, newarray.typeOf at_)) (hra : ∀ s : State, va_RA s (zgA g kd) (newarray.typeOf at_) → s.vm.findClass ("[" ++ (newarray.typeOf at_).toString) = some (zgA g kd))
    (hkd : ¬ kd < 13 ∧ kd < 99) (hx : x = nI len) (hs : zsh n = (kd, len)) (hdf : ∀ k, defaultValue (newarray.typeOf at_) = zel g (I n) (L n) (R n) kd k) (hby : componentBytes (newarray.typeOf at_) ≤ 8) (hn : n0 ≤ n ∧ n < n1) (hq : q = pc + 2)
    (kk : zAW g l d n0 n1 M (I, L, R, n + 1) q lv (.ref n :: st) Q) : zAW g l d n0 n1 M (I, L, R, n) pc lv (.int x :: st) Q := by
  subst hq
  subst hx
  intro p e Rm s m args below meth c H locs ls C hR hL hl
  obtain ⟨hx, hb, hml', -, -, -, hown, hts, hSt, -, hce, hsl2⟩ := id C
  have hlen : len < 1000 := by have := zsh_small n; rw [hs] at this; exact this
  obtain ⟨r1, r2, r3, r4⟩ := zroom1 (len := len) (by rw [hs]) hn hce hsl2
  have hb8 : len * componentBytes (newarray.typeOf at_) ≤ 536870912 := by
    have := Nat.mul_le_mul (Nat.le_of_lt hlen) hby
    omega
  refine va_newaK hx hb (hts _ hac) rfl hd rfl (nI_pos (by omega)) (zcl_n (by omega)) hb8 r1 r2 (h := zgB g + n) hR.1 fun H1 cA e1 z1 o1 hAr hNm => ?_
  have ecA : cA = zgA g kd := Option.some.inj (hNm.symm.trans (hra s (hSt.1.2 t _ hty).2))
  subst ecA
  have h := kk p e Rm s m args below meth c H1 locs ls C (zRep_push hR z1 o1 (zcell_ai hs hkd.1 (e1.trans (congrArg some (congrArg (arrV (zgA g kd) len) (funext hdf)))))) hL hl
  have h2 : W p l e Rm s m args below meth c H1 locs (n + 1 - n0) (zS (n + 1) - zS n0) (MQ below (zQc g n1 Q) args s (n1 - n0) (zS n1 - zS n0) (fun q => zgB g ≤ q)) (F0 m (pc + 2) ls (.ref (zad g n) :: st.map (zrv g))) := h
  rw [r3, r4, zad_lt hs hkd.2] at h2
  exact h2
theorem zNewI {len : Nat} {x : Int32} (hd : decode (zmc M) pc = .ok (.newarray .int, 2)) (hx : x = nI len) (hs : zsh n = (20, len)) (hI : ∀ k, I n k = 0) (hn : n0 ≤ n ∧ n < n1) (hq : q = pc + 2)
    (kk : zAW g l d n0 n1 M (I, L, R, n + 1) q lv (.ref n :: st) Q) : zAW g l d n0 n1 M (I, L, R, n) pc lv (.int x :: st) Q :=
  zNewA (kd := 20) (t := 0) hd ac_int rfl (fun _ h => h) (by decide) hx hs (fun k => by show Value.int 0 = Value.int (I n k); rw [hI]) (by decide) hn hq kk
theorem zNewL {len : Nat} {x : Int32} (hd : decode (zmc M) pc = .ok (.newarray .long, 2)) (hx : x = nI len) (hs : zsh n = (21, len)) (hI : ∀ k, L n k = 0) (hn : n0 ≤ n ∧ n < n1) (hq : q = pc + 2)
    (kk : zAW g l d n0 n1 M (I, L, R, n + 1) q lv (.ref n :: st) Q) : zAW g l d n0 n1 M (I, L, R, n) pc lv (.int x :: st) Q :=
  zNewA (kd := 21) (t := 1) hd ac_long rfl (fun _ h => h) (by decide) hx hs (fun k => by show Value.long 0 = Value.long (L n k); rw [hI]) (by decide) hn hq kk
theorem zNewB {len : Nat} {x : Int32} (hd : decode (zmc M) pc = .ok (.newarray .byte, 2)) (hx : x = nI len) (hs : zsh n = (22, len)) (hI : ∀ k, I n k = 0) (hn : n0 ≤ n ∧ n < n1) (hq : q = pc + 2)
    (kk : zAW g l d n0 n1 M (I, L, R, n + 1) q lv (.ref n :: st) Q) : zAW g l d n0 n1 M (I, L, R, n) pc lv (.int x :: st) Q :=
  zNewA (kd := 22) (t := 2) hd ac_byte rfl (fun _ h => h) (by decide) hx hs (fun k => by show Value.int 0 = Value.int (I n k); rw [hI]) (by decide) hn hq kk
theorem zNewSh {len : Nat} {x : Int32} (hd : decode (zmc M) pc = .ok (.newarray .short, 2)) (hx : x = nI len) (hs : zsh n = (23, len)) (hI : ∀ k, I n k = 0) (hn : n0 ≤ n ∧ n < n1) (hq : q = pc + 2)
    (kk : zAW g l d n0 n1 M (I, L, R, n + 1) q lv (.ref n :: st) Q) : zAW g l d n0 n1 M (I, L, R, n) pc lv (.int x :: st) Q :=
  zNewA (kd := 23) (t := 3) hd ac_short rfl (fun _ h => h) (by decide) hx hs (fun k => by show Value.int 0 = Value.int (I n k); rw [hI]) (by decide) hn hq kk
/-- the row of shelves -/
theorem zNewQ {idx len : Nat} {x : Int32} (hd : decode (zmc M) pc = .ok (.anewarray idx, 3)) (hcl : Cond.classLink (zmo M) idx RX8 ∈ zWT) (hx : x = nI len) (hs : zsh n = (25, len)) (hRn : ∀ k, R n k = none) (hn : n0 ≤ n ∧ n < n1) (hq : q = pc + 3)
    (kk : zAW g l d n0 n1 M (I, L, R, n + 1) q lv (.ref n :: st) Q) : zAW g l d n0 n1 M (I, L, R, n) pc lv (.int x :: st) Q := by
  subst hq
  subst hx
  intro p e Rm s m args below meth c H locs ls C hR hL hl
  obtain ⟨hx, hb, hml', -, -, -, hown, hts, hSt, -, hce, hsl2⟩ := id C
  have hlen : len < 1000 := by have := zsh_small n; rw [hs] at this; exact this
  obtain ⟨r1, r2, r3, r4⟩ := zroom1 (len := len) (by rw [hs]) hn hce hsl2
  have ecl : (nI len).toNatClampNeg = len := zcl_n (by omega)
  refine W.anew hx hb hown (hts _ hcl) (va_AO.use hSt.2.2.1) rfl hd rfl (nI_pos (by omega)) (by rw [ecl]; omega) r1 (by rw [ecl]; exact r2) fun cA kA comp f1 f2 f3 f4 => ?_
  rw [ecl, arrV_new]
  obtain ⟨kA', comp', g1, g2, g3, g4⟩ := (hSt.1.2 5 _ rfl).2
  have ecA : cA = zgA g 25 := Option.some.inj (f1.symm.trans g4)
  subst ecA
  have hz : H.size = zgB g + n := hR.1
  have h := kk p e Rm s m args below meth c (H.push (arrV (zgA g 25) len (fun _ => .null))) locs ls C (zRep_push hR (by rw [Array.size_push, hz]) (fun q hq => by rw [Array.getElem?_push, if_neg (by omega)]) (zcell_ai hs (by decide) (by
    rw [← hz, Array.getElem?_push_size]
    refine congrArg some (congrArg (arrV (zgA g 25) len) (funext fun k => ?_))
    show Value.null = va_rf ((R n k).map (zad g))
    rw [hRn]; rfl))) hL hl
  have h2 : W p l e Rm s m args below meth c (H.push (arrV (zgA g 25) len (fun _ => .null))) locs (n + 1 - n0) (zS (n + 1) - zS n0) (MQ below (zQc g n1 Q) args s (n1 - n0) (zS n1 - zS n0) (fun q => zgB g ≤ q)) (F0 m (pc + 3) ls (.ref (zad g n) :: st.map (zrv g))) := h
  rw [r3, r4, zad_lt hs (by decide), ← hz] at h2
  exact h2
/-- a shelf into the row -/
theorem zAst {len a b j len2 : Nat} {i : Int32} (hd : decode (zmc M) pc = .ok (.aastore, 1)) (hs : zsh a = (25, len)) (ha : a < n) (hb : b < n) (hsb : zsh b = (8, len2)) (hi : i = nI j) (hj : j < len) (hq : q = pc + 1)
    (kk : zAW g l d n0 n1 M (I, L, zup R a (zup (R a) j (some b)), n) q lv st Q) : zAW g l d n0 n1 M (I, L, R, n) pc lv (.ref b :: .int i :: .ref a :: st) Q := by
  subst hq
  subst hi
  intro p e Rm s m args below meth c H locs ls C hR hL hl
  have hlen : len < 1000 := by have := zsh_small a; rw [hs] at this; exact this
  obtain ⟨hx, hcode, hml', -, -, -, hown, hts, hSt, -, hce, hsl2⟩ := id C
  show W _ _ _ _ _ _ _ _ _ _ _ _ _ _ _ (F0 m pc ls (.ref (zad g b) :: .int (nI j) :: .ref (zad g a) :: st.map (zrv g)))
  rw [zad_lt hs (by decide), zad_lt hsb (by decide)]
  obtain ⟨cellV, g1, g2, g3, -⟩ := zcell_o (hR.2.1 b hb) hsb (by decide)
  have hcls := (hSt.1.1 8 _ (zc_at (by decide))).2
  obtain ⟨kA, comp, k1, k2, k3, -⟩ := (hSt.1.2 5 _ rfl).2
  have hcomp : comp = zgC g 8 := Option.some.inj (k3.symm.trans hcls.1)
  subst hcomp
  obtain ⟨kC, hkC, -⟩ := hcls.2
  refine W.aast hx hcode (zcell_a (hR.2.1 a ha) hs (by decide)) (fun q h => by cases h) (fun h => by cases h) k1 k2 rfl hkC ⟨nI_pos (by omega), by show _ < (arrV _ _ _).slots.size; rw [arrV_size, zcl_n (by omega)]; exact hj⟩ g1 (fun q h => by rw [g3] at h; cases h) (by rw [g2]; exact hkC) (by rw [g2]; exact va_assign hcls) rfl rfl hd fun H' e1 e2 e3 => ?_
  rw [zcl_n (by omega)] at e1 ⊢
  have e4 : Value.ref (zgB g + b) = va_rf ((some b).map (zad g)) := by
    show Value.ref (zgB g + b) = Value.ref (zad g b)
    rw [zad_lt hsb (by decide)]
  rw [e4] at e1
  refine kk p e Rm s m args below meth c H' _ ls C (zRep_upR hR ha e2 e3 (zcell_ai hs (by decide) (e1.trans (congrArg some (zarr_st (fun j => zel_upr (by decide) j)))))) (fun z hz => ?_) hl
  rcases List.mem_append.mp hz with hz | hz
  · exact hL z hz
  · rw [List.mem_singleton.mp hz]; exact Nat.le_add_right _ _
end S94
