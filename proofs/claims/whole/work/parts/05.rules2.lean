theorem zsh_small (a : Nat) : (zsh a).2 < 1000 := by
  unfold zsh
  by_cases h : a < 1000
  · rw [if_pos h, List.getD_eq_getElem?_getD]
    cases hx : zshL[a]? with
    | none => decide
    | some v => exact (show ∀ v ∈ zshL, v.2 < 1000 by decide +kernel) v (List.mem_of_getElem? hx)
  · rw [if_neg h]; decide
theorem zad_lt {g : zG} {a kd len : Nat} (hs : zsh a = (kd, len)) (hk : kd < 99) : zad g a = zgB g + a := by
  unfold zsh at hs
  unfold zad
  by_cases h : a < 1000
  · rw [if_pos h]
  · rw [if_neg h] at hs
    cases hs
    omega
theorem zad_st (g : zG) (j : Nat) : zad g (1000 + j) = zgS g j := by
  unfold zad
  rw [if_neg (by omega), Nat.add_sub_cancel_left]
theorem zin {j len : Nat} (h : j < len) (hl : len < 2 ^ 31) : ¬ (nI j < 0 ∨ len ≤ (nI j).toNatClampNeg) := nI_in h hl
def zFL (own : String) (idx kd k : Nat) (r : Bool) : Prop := Cond.fieldLink own idx (zcR kd) (zcT kd k).2.1 (zcT kd k).2.2.1 ∈ zWT ∧ kd < 13 ∧ k < zcN kd ∧ zrf kd k = r
theorem zfv_i {g : zG} {i : Nat → Int32} {r : Nat → Option Nat} {kd k : Nat} (h : zrf kd k = false) : zfv g i r kd k = .int (i k) := by
  unfold zfv; rw [h]; rfl
theorem zfv_r {g : zG} {i : Nat → Int32} {r : Nat → Option Nat} {kd k : Nat} (h : zrf kd k = true) : zfv g i r kd k = va_rf ((r k).map (zad g)) := by
  unfold zfv; rw [h]; rfl
theorem zfv_upi {g : zG} {i : Nat → Int32} {r : Nat → Option Nat} {kd k : Nat} {x : Int32} (h : zrf kd k = false) (j : Nat) : updV (zfv g i r kd) k (.int x) j = zfv g (zup i k x) r kd j := by
  unfold updV
  by_cases e : j = k
  · subst e
    rw [if_pos rfl, zfv_i h, zup_eq]
  · rw [if_neg e]
    unfold zfv
    rw [zup_ne e]
theorem zfv_upr {g : zG} {i : Nat → Int32} {r : Nat → Option Nat} {kd k : Nat} {x : Option Nat} (h : zrf kd k = true) (j : Nat) : updV (zfv g i r kd) k (va_rf (x.map (zad g))) j = zfv g i (zup r k x) kd j := by
  unfold updV
  by_cases e : j = k
  · subst e
    rw [if_pos rfl, zfv_r h, zup_eq]
  · rw [if_neg e]
    unfold zfv
    rw [zup_ne e]
theorem zel_i {g : zG} {i : Nat → Int32} {l : Nat → Int64} {r : Nat → Option Nat} {kd k : Nat} (h : kd < 24) (h2 : ¬ kd = 21) : zel g i l r kd k = .int (i k) := by
  unfold zel; rw [if_neg h2, if_pos h]
theorem zel_l {g : zG} {i : Nat → Int32} {l : Nat → Int64} {r : Nat → Option Nat} {k : Nat} : zel g i l r 21 k = .long (l k) := rfl
theorem zel_r {g : zG} {i : Nat → Int32} {l : Nat → Int64} {r : Nat → Option Nat} {kd k : Nat} (h : ¬ kd < 24) : zel g i l r kd k = va_rf ((r k).map (zad g)) := by
  unfold zel; rw [if_neg (by omega), if_neg h]
theorem zarr_st {cA : ClassId} {N k : Nat} {f f' : Nat → Value} {v : Value} (h : ∀ j, updV f k v j = f' j) : (arrV cA N f).setSlot k v = arrV cA N f' := by
  rw [arrV_store]
  exact congrArg (arrV cA N) (funext h)
theorem zel_upi {g : zG} {i : Nat → Int32} {l : Nat → Int64} {r : Nat → Option Nat} {kd k : Nat} {x : Int32} (h : kd < 24) (h2 : ¬ kd = 21) (j : Nat) : updV (zel g i l r kd) k (.int x) j = zel g (zup i k x) l r kd j := by
  unfold updV
  by_cases e : j = k
  · subst e
    rw [if_pos rfl, zel_i h h2, zup_eq]
  · rw [if_neg e, zel_i h h2, zel_i h h2, zup_ne e]
theorem zel_upl {g : zG} {i : Nat → Int32} {l : Nat → Int64} {r : Nat → Option Nat} {k : Nat} {x : Int64} (j : Nat) : updV (zel g i l r 21) k (.long x) j = zel g i (zup l k x) r 21 j := by
  unfold updV
  by_cases e : j = k
  · subst e
    rw [if_pos rfl, zel_l, zup_eq]
  · rw [if_neg e, zel_l, zel_l, zup_ne e]
theorem zel_upr {g : zG} {i : Nat → Int32} {l : Nat → Int64} {r : Nat → Option Nat} {kd k : Nat} {x : Option Nat} (h : ¬ kd < 24) (j : Nat) : updV (zel g i l r kd) k (va_rf (x.map (zad g))) j = zel g i l (zup r k x) kd j := by
  unfold updV
  by_cases e : j = k
  · subst e
    rw [if_pos rfl, zel_r h, zup_eq]
  · rw [if_neg e, zel_r h, zel_r h, zup_ne e]
theorem zRep_upI {g : zG} {I : Nat → Nat → Int32} {L : Nat → Nat → Int64} {R : Nat → Nat → Option Nat} {n a : Nat} {f : Nat → Int32} {H H1 : Heap} (h : zRep g (I, L, R, n) H) (ha : a < n) (z : H1.size = H.size) (oq : ∀ q : Nat, q ≠ zgB g + a → H1[q]? = H[q]?) (hc : zcell g f (L a) (R a) a H1) : zRep g (zup I a f, L, R, n) H1 :=
  zRep_set h ha rfl z oq (fun b hb => zup_ne hb) (fun _ _ => rfl) (fun _ _ => rfl) (by show zcell g (zup I a f a) (L a) (R a) a H1; rw [zup_eq]; exact hc)
theorem zRep_upL {g : zG} {I : Nat → Nat → Int32} {L : Nat → Nat → Int64} {R : Nat → Nat → Option Nat} {n a : Nat} {f : Nat → Int64} {H H1 : Heap} (h : zRep g (I, L, R, n) H) (ha : a < n) (z : H1.size = H.size) (oq : ∀ q : Nat, q ≠ zgB g + a → H1[q]? = H[q]?) (hc : zcell g (I a) f (R a) a H1) : zRep g (I, zup L a f, R, n) H1 :=
  zRep_set h ha rfl z oq (fun _ _ => rfl) (fun b hb => zup_ne hb) (fun _ _ => rfl) (by show zcell g (I a) (zup L a f a) (R a) a H1; rw [zup_eq]; exact hc)
theorem zRep_upR {g : zG} {I : Nat → Nat → Int32} {L : Nat → Nat → Int64} {R : Nat → Nat → Option Nat} {n a : Nat} {f : Nat → Option Nat} {H H1 : Heap} (h : zRep g (I, L, R, n) H) (ha : a < n) (z : H1.size = H.size) (oq : ∀ q : Nat, q ≠ zgB g + a → H1[q]? = H[q]?) (hc : zcell g (I a) (L a) f a H1) : zRep g (I, L, zup R a f, n) H1 :=
  zRep_set h ha rfl z oq (fun _ _ => rfl) (fun _ _ => rfl) (fun b hb => zup_ne hb) (by show zcell g (I a) (L a) (zup R a f a) a H1; rw [zup_eq]; exact hc)
section ZF
variable {g : zG} {l : Launch} {d n0 n1 : Nat} {M : zM} {w : zW} {I : Nat → Nat → Int32} {L : Nat → Nat → Int64} {R : Nat → Nat → Option Nat} {n pc q : Nat} {lv : List (Nat × Value)} {st : List Value} {Q : Option Value → zW → Prop}
theorem zGetI {idx kd len a k : Nat} (hd : decode (zmc M) pc = .ok (.getfield idx, 3)) (hf : zFL (zmo M) idx kd k false) (hs : zsh a = (kd, len)) (ha : a < n) (hq : q = pc + 3) (kk : zAW g l d n0 n1 M (I, L, R, n) q lv (.int (I a k) :: st) Q) : zAW g l d n0 n1 M (I, L, R, n) pc lv (.ref a :: st) Q := by
  subst hq
  intro p e Rm s m args below meth c H locs ls C hR hL hl
  obtain ⟨h1, h2, h3, h4⟩ := hf
  obtain ⟨hx, hb, -, -, -, -, hown, hts, hSt, -⟩ := id C
  obtain ⟨cell, q1, q2, q3, q4⟩ := zcell_o (hR.2.1 a ha) hs h2
  obtain ⟨hS, hfc, kC, hkC, hkind⟩ := hSt.1.1 kd _ (zc_at h2)
  obtain ⟨cf, kf, fi, f, hi, hsl⟩ := hS k h3
  show W _ _ _ _ _ _ _ _ _ _ _ _ _ _ _ (F0 m pc ls (.ref (zad g a) :: st.map (zrv g)))
  rw [zad_lt hs (Nat.lt_trans h2 (by decide))]
  refine W.getf hx hb hown (hts _ h1) (by have := hi; rwa [zc_own h2 k h3] at this) (u_facts hfc hkC (u_lays hts (zc_in h2) h3) hi).1 q1 (by rw [q3]; exact fun h => by cases h) (v := .int (I a k)) ?_ rfl rfl hd (kk p e Rm s m args below meth c H locs ls C hR hL hl)
  rw [hsl, q4 k h3]
  exact congrArg some (zfv_i h4)
theorem zGetR {idx kd len a k b : Nat} (hd : decode (zmc M) pc = .ok (.getfield idx, 3)) (hf : zFL (zmo M) idx kd k true) (hs : zsh a = (kd, len)) (ha : a < n) (hr : R a k = some b) (hq : q = pc + 3) (kk : zAW g l d n0 n1 M (I, L, R, n) q lv (.ref b :: st) Q) : zAW g l d n0 n1 M (I, L, R, n) pc lv (.ref a :: st) Q := by
  subst hq
  intro p e Rm s m args below meth c H locs ls C hR hL hl
  obtain ⟨h1, h2, h3, h4⟩ := hf
  obtain ⟨hx, hb, -, -, -, -, hown, hts, hSt, -⟩ := id C
  obtain ⟨cell, q1, q2, q3, q4⟩ := zcell_o (hR.2.1 a ha) hs h2
  obtain ⟨hS, hfc, kC, hkC, hkind⟩ := hSt.1.1 kd _ (zc_at h2)
  obtain ⟨cf, kf, fi, f, hi, hsl⟩ := hS k h3
  show W _ _ _ _ _ _ _ _ _ _ _ _ _ _ _ (F0 m pc ls (.ref (zad g a) :: st.map (zrv g)))
  rw [zad_lt hs (Nat.lt_trans h2 (by decide))]
  refine W.getf hx hb hown (hts _ h1) (by have := hi; rwa [zc_own h2 k h3] at this) (u_facts hfc hkC (u_lays hts (zc_in h2) h3) hi).1 q1 (by rw [q3]; exact fun h => by cases h) (v := .ref (zad g b)) ?_ rfl rfl hd (kk p e Rm s m args below meth c H locs ls C hR hL hl)
  rw [hsl, q4 k h3]
  refine congrArg some ((zfv_r h4).trans ?_)
  show va_rf ((R a k).map (zad g)) = _
  rw [hr]; rfl
theorem zPutI {idx kd len a k : Nat} {x : Int32} (hd : decode (zmc M) pc = .ok (.putfield idx, 3)) (hf : zFL (zmo M) idx kd k false) (hfin : (zcT kd k).2.2.2 = false) (hn : narrow (zcY kd k) (.int x) = .int x) (hfit : fits (zcY kd k) (.int x) = true) (hs : zsh a = (kd, len)) (ha : a < n) (hq : q = pc + 3) (kk : zAW g l d n0 n1 M (zup I a (zup (I a) k x), L, R, n) q lv st Q) : zAW g l d n0 n1 M (I, L, R, n) pc lv (.int x :: .ref a :: st) Q := by
  subst hq
  intro p e Rm s m args below meth c H locs ls C hR hL hl
  obtain ⟨h1, h2, h3, h4⟩ := hf
  obtain ⟨hx, hb, -, -, -, -, hown, hts, hSt, -⟩ := id C
  obtain ⟨cell, q1, q2, q3, q4⟩ := zcell_o (hR.2.1 a ha) hs h2
  have hap := va_apart (own := zmo M) hts (zc_in h2) (zcY kd) (zc_ty h2) (zc_nm h2) hSt.1 (zc_at h2)
  obtain ⟨hS, hfc, kC, hkC, hkind⟩ := hSt.1.1 kd _ (zc_at h2)
  obtain ⟨cf, kf, fi, f, hi, hsl⟩ := hS k h3
  have hlay := hts _ (zc_in h2 _ (u_in_lay h3))
  unfold u_lay at hlay
  rw [if_neg (by rw [hfin]; decide)] at hlay
  have hst := (u_facts hfc hkC (u_lays hts (zc_in h2) h3) hi).1
  have h6 := u_store hfc hkC hkind hlay hi (zc_ty h2 k h3) hn hfit
  show W _ _ _ _ _ _ _ _ _ _ _ _ _ _ _ (F0 m pc ls (.int x :: .ref (zad g a) :: st.map (zrv g)))
  rw [zad_lt hs (Nat.lt_trans h2 (by decide))]
  refine W.putK hx hb (f := f) ⟨hown, hts _ h1, ⟨_, _, _, by have := hi; rwa [zc_own h2 k h3] at this⟩, hst⟩ (by rw [q2]; exact h6) q1 q3 (by rw [hsl]; exact k2_hasslot (q4 k h3)) rfl rfl hd fun H' e1 e2 e3 => ?_
  rw [hsl] at e1 ⊢
  refine kk p e Rm s m args below meth c H' _ ls C (zRep_upI hR ha e2 e3 (zcell_oi hs h2 (t_OB.to (V := updV (zfv g (I a) (R a) kd) k (.int x)) ⟨_, e1, q2, q3, t_set q4 hap h3 _⟩ (fun j _ => zfv_upi h4 j)))) (fun z hz => ?_) hl
  rcases List.mem_append.mp hz with hz | hz
  · exact hL z hz
  · rw [List.mem_singleton.mp hz]; exact Nat.le_add_right _ _
theorem zPutR {idx kd len a k : Nat} {x : Option Nat} {v : Value} (hd : decode (zmc M) pc = .ok (.putfield idx, 3)) (hf : zFL (zmo M) idx kd k true) (hfin : (zcT kd k).2.2.2 = false) (hv : va_rf x = v) (hn : ∀ b : Nat, narrow (zcY kd k) (.ref b) = .ref b) (hfit : ∀ b : Nat, fits (zcY kd k) (.ref b) = true) (hn2 : narrow (zcY kd k) .null = .null) (hfit2 : fits (zcY kd k) .null = true) (hs : zsh a = (kd, len)) (ha : a < n) (hq : q = pc + 3) (kk : zAW g l d n0 n1 M (I, L, zup R a (zup (R a) k x), n) q lv st Q) : zAW g l d n0 n1 M (I, L, R, n) pc lv (v :: .ref a :: st) Q := by
  subst hq
  subst hv
  intro p e Rm s m args below meth c H locs ls C hR hL hl
  obtain ⟨h1, h2, h3, h4⟩ := hf
  obtain ⟨hx, hb, -, -, -, -, hown, hts, hSt, -⟩ := id C
  obtain ⟨cell, q1, q2, q3, q4⟩ := zcell_o (hR.2.1 a ha) hs h2
  have hap := va_apart (own := zmo M) hts (zc_in h2) (zcY kd) (zc_ty h2) (zc_nm h2) hSt.1 (zc_at h2)
  obtain ⟨hS, hfc, kC, hkC, hkind⟩ := hSt.1.1 kd _ (zc_at h2)
  obtain ⟨cf, kf, fi, f, hi, hsl⟩ := hS k h3
  have hlay := hts _ (zc_in h2 _ (u_in_lay h3))
  unfold u_lay at hlay
  rw [if_neg (by rw [hfin]; decide)] at hlay
  have hst := (u_facts hfc hkC (u_lays hts (zc_in h2) h3) hi).1
  have hv : zrv g (va_rf x) = va_rf (x.map (zad g)) := by cases x <;> rfl
  have h6 : k2_Sd s f (zgC g kd) (va_rf (x.map (zad g))) := by
    cases x with
    | none => exact u_store hfc hkC hkind hlay hi (zc_ty h2 k h3) hn2 hfit2
    | some b => exact u_store hfc hkC hkind hlay hi (zc_ty h2 k h3) (hn _) (hfit _)
  show W _ _ _ _ _ _ _ _ _ _ _ _ _ _ _ (F0 m pc ls (zrv g (va_rf x) :: .ref (zad g a) :: st.map (zrv g)))
  rw [hv, zad_lt hs (Nat.lt_trans h2 (by decide))]
  refine W.putK hx hb (f := f) ⟨hown, hts _ h1, ⟨_, _, _, by have := hi; rwa [zc_own h2 k h3] at this⟩, hst⟩ (by rw [q2]; exact h6) q1 q3 (by rw [hsl]; exact k2_hasslot (q4 k h3)) rfl rfl hd fun H' e1 e2 e3 => ?_
  rw [hsl] at e1 ⊢
  refine kk p e Rm s m args below meth c H' _ ls C (zRep_upR hR ha e2 e3 (zcell_oi hs h2 (t_OB.to (V := updV (zfv g (I a) (R a) kd) k (va_rf (x.map (zad g)))) ⟨_, e1, q2, q3, t_set q4 hap h3 _⟩ (fun j _ => zfv_upr h4 j)))) (fun z hz => ?_) hl
  rcases List.mem_append.mp hz with hz | hz
  · exact hL z hz
  · rw [List.mem_singleton.mp hz]; exact Nat.le_add_right _ _
theorem zPutF {idx kd len a k b : Nat} (hd : decode (zmc M) pc = .ok (.putfield idx, 3)) (hf : zFL (zmo M) idx kd k true) (hfin : (zcT kd k).2.2.2 = true) (hin : (zmy M).name = "<init>") (how : zmo M = zcR kd) (hn : ∀ b : Nat, narrow (zcY kd k) (.ref b) = .ref b) (hfit : ∀ b : Nat, fits (zcY kd k) (.ref b) = true) (hs : zsh a = (kd, len)) (ha : a < n) (hq : q = pc + 3) (kk : zAW g l d n0 n1 M (I, L, zup R a (zup (R a) k (some b)), n) q lv st Q) : zAW g l d n0 n1 M (I, L, R, n) pc lv (.ref b :: .ref a :: st) Q := by
  subst hq
  intro p e Rm s m args below meth c H locs ls C hR hL hl
  obtain ⟨h1, h2, h3, h4⟩ := hf
  obtain ⟨hx, hb, -, -, -, hnm, hown, hts, hSt, -⟩ := id C
  obtain ⟨cell, q1, q2, q3, q4⟩ := zcell_o (hR.2.1 a ha) hs h2
  have hap := va_apart (own := zmo M) hts (zc_in h2) (zcY kd) (zc_ty h2) (zc_nm h2) hSt.1 (zc_at h2)
  obtain ⟨hS, hfc, kC, hkC, hkind⟩ := hSt.1.1 kd _ (zc_at h2)
  obtain ⟨cf, kf, fi, f, hi, hsl⟩ := hS k h3
  have hlay := hts _ (zc_in h2 _ (u_in_lay h3))
  unfold u_lay at hlay
  rw [if_pos hfin] at hlay
  have hst := (u_facts hfc hkC (u_lays hts (zc_in h2) h3) hi).1
  have hcf : m.cls = cf := by
    obtain ⟨_, _, c', _, _, _, -, -, hf', -, -, -, hown2, -⟩ := Cond.laysFinal_spec hlay
    have e1 : c' = cf := by have := hi.symm.trans hf'; simp at this; exact this.1.symm
    rw [zc_own h2 k h3, ← how] at hown2
    rw [← e1]; exact Option.some.inj (hown.symm.trans hown2)
  have h6 := u_fits hfc hkC hkind (Or.inr hlay) hi (zc_ty h2 k h3) (hn (zad g b)) (hfit (zad g b))
  show W _ _ _ _ _ _ _ _ _ _ _ _ _ _ _ (F0 m pc ls (.ref (zad g b) :: .ref (zad g a) :: st.map (zrv g)))
  rw [zad_lt hs (Nat.lt_trans h2 (by decide))]
  refine W.putFinK hx hb hown (hts _ h1) (by have := hi; rwa [zc_own h2 k h3] at this) hst hcf (hnm.trans hin) (by rw [q2]; exact h6) q1 q3 (by rw [hsl]; exact k2_hasslot (q4 k h3)) rfl rfl hd fun H' e1 e2 e3 => ?_
  rw [hsl] at e1 ⊢
  refine kk p e Rm s m args below meth c H' _ ls C (zRep_upR hR ha e2 e3 (zcell_oi hs h2 (t_OB.to (V := updV (zfv g (I a) (R a) kd) k (va_rf ((some b).map (zad g)))) ⟨_, e1, q2, q3, t_set q4 hap h3 _⟩ (fun j _ => zfv_upr h4 j)))) (fun z hz => ?_) hl
  rcases List.mem_append.mp hz with hz | hz
  · exact hL z hz
  · rw [List.mem_singleton.mp hz]; exact Nat.le_add_right _ _
theorem zIald {len a j : Nat} {i : Int32} (hd : decode (zmc M) pc = .ok (.iaload, 1)) (hs : zsh a = (20, len)) (ha : a < n) (hi : i = nI j) (hj : j < len) (hq : q = pc + 1) (kk : zAW g l d n0 n1 M (I, L, R, n) q lv (.int (I a j) :: st) Q) : zAW g l d n0 n1 M (I, L, R, n) pc lv (.int i :: .ref a :: st) Q := by
  subst hq
  subst hi
  intro p e Rm s m args below meth c H locs ls C hR hL hl
  have hlen : len < 1000 := by have := zsh_small a; rw [hs] at this; exact this
  show W _ _ _ _ _ _ _ _ _ _ _ _ _ _ _ (F0 m pc ls (.int (nI j) :: .ref (zad g a) :: st.map (zrv g)))
  rw [zad_lt hs (by decide)]
  refine W.iald C.1 C.2.1 (zcell_a (hR.2.1 a ha) hs (by decide)) ((C.2.2.2.2.2.2.2.2.1.1.2 0 _ rfl).1 len _) (fun q => by cases q) (by show ¬ (_ ∨ (arrV _ _ _).slots.size ≤ _); rw [arrV_size]; exact zin hj (by omega)) (v := .int (I a j)) ?_ rfl rfl hd (kk p e Rm s m args below meth c H locs ls C hR hL hl)
  rw [nI_clamp (by omega), arrV_read _ _ hj]
  rfl
theorem zLald {len a j : Nat} {i : Int32} (hd : decode (zmc M) pc = .ok (.laload, 1)) (hs : zsh a = (21, len)) (ha : a < n) (hi : i = nI j) (hj : j < len) (hq : q = pc + 1) (kk : zAW g l d n0 n1 M (I, L, R, n) q lv (.long (L a j) :: st) Q) : zAW g l d n0 n1 M (I, L, R, n) pc lv (.int i :: .ref a :: st) Q := by
  subst hq
  subst hi
  intro p e Rm s m args below meth c H locs ls C hR hL hl
  have hlen : len < 1000 := by have := zsh_small a; rw [hs] at this; exact this
  show W _ _ _ _ _ _ _ _ _ _ _ _ _ _ _ (F0 m pc ls (.int (nI j) :: .ref (zad g a) :: st.map (zrv g)))
  rw [zad_lt hs (by decide)]
  refine W.lald C.1 C.2.1 (zcell_a (hR.2.1 a ha) hs (by decide)) ((C.2.2.2.2.2.2.2.2.1.1.2 1 _ rfl).1 len _) (fun q => by cases q) (by show ¬ (_ ∨ (arrV _ _ _).slots.size ≤ _); rw [arrV_size]; exact zin hj (by omega)) (v := .long (L a j)) ?_ rfl rfl hd (kk p e Rm s m args below meth c H locs ls C hR hL hl)
  rw [nI_clamp (by omega), arrV_read _ _ hj]
  rfl
theorem zBald {len a j : Nat} {i : Int32} (hd : decode (zmc M) pc = .ok (.baload, 1)) (hs : zsh a = (22, len)) (ha : a < n) (hi : i = nI j) (hj : j < len) (hq : q = pc + 1) (kk : zAW g l d n0 n1 M (I, L, R, n) q lv (.int (I a j) :: st) Q) : zAW g l d n0 n1 M (I, L, R, n) pc lv (.int i :: .ref a :: st) Q := by
  subst hq
  subst hi
  intro p e Rm s m args below meth c H locs ls C hR hL hl
  have hlen : len < 1000 := by have := zsh_small a; rw [hs] at this; exact this
  show W _ _ _ _ _ _ _ _ _ _ _ _ _ _ _ (F0 m pc ls (.int (nI j) :: .ref (zad g a) :: st.map (zrv g)))
  rw [zad_lt hs (by decide)]
  refine W.bald C.1 C.2.1 (zcell_a (hR.2.1 a ha) hs (by decide)) ((C.2.2.2.2.2.2.2.2.1.1.2 2 _ rfl).1 len _) (fun q => by cases q) (by show ¬ (_ ∨ (arrV _ _ _).slots.size ≤ _); rw [arrV_size]; exact zin hj (by omega)) (v := .int (I a j)) ?_ rfl rfl hd (kk p e Rm s m args below meth c H locs ls C hR hL hl)
  rw [nI_clamp (by omega), arrV_read _ _ hj]
  rfl
theorem zSald {len a j : Nat} {i : Int32} (hd : decode (zmc M) pc = .ok (.saload, 1)) (hs : zsh a = (23, len)) (ha : a < n) (hi : i = nI j) (hj : j < len) (hq : q = pc + 1) (kk : zAW g l d n0 n1 M (I, L, R, n) q lv (.int (I a j) :: st) Q) : zAW g l d n0 n1 M (I, L, R, n) pc lv (.int i :: .ref a :: st) Q := by
  subst hq
  subst hi
  intro p e Rm s m args below meth c H locs ls C hR hL hl
  have hlen : len < 1000 := by have := zsh_small a; rw [hs] at this; exact this
  show W _ _ _ _ _ _ _ _ _ _ _ _ _ _ _ (F0 m pc ls (.int (nI j) :: .ref (zad g a) :: st.map (zrv g)))
  rw [zad_lt hs (by decide)]
  refine W.sald C.1 C.2.1 (zcell_a (hR.2.1 a ha) hs (by decide)) ((C.2.2.2.2.2.2.2.2.1.1.2 3 _ rfl).1 len _) (fun q => by cases q) (by show ¬ (_ ∨ (arrV _ _ _).slots.size ≤ _); rw [arrV_size]; exact zin hj (by omega)) (v := .int (I a j)) ?_ rfl rfl hd (kk p e Rm s m args below meth c H locs ls C hR hL hl)
  rw [nI_clamp (by omega), arrV_read _ _ hj]
  rfl
theorem zAaldII {len a j b : Nat} {i : Int32} (hd : decode (zmc M) pc = .ok (.aaload, 1)) (hs : zsh a = (24, len)) (ha : a < n) (hi : i = nI j) (hj : j < len) (hr : R a j = some b) (hq : q = pc + 1) (kk : zAW g l d n0 n1 M (I, L, R, n) q lv (.ref b :: st) Q) : zAW g l d n0 n1 M (I, L, R, n) pc lv (.int i :: .ref a :: st) Q := by
  subst hq
  subst hi
  intro p e Rm s m args below meth c H locs ls C hR hL hl
  have hlen : len < 1000 := by have := zsh_small a; rw [hs] at this; exact this
  show W _ _ _ _ _ _ _ _ _ _ _ _ _ _ _ (F0 m pc ls (.int (nI j) :: .ref (zad g a) :: st.map (zrv g)))
  rw [zad_lt hs (by decide)]
  refine W.aald (ty := .array .int) C.1 C.2.1 (zcell_a (hR.2.1 a ha) hs (by decide)) ((C.2.2.2.2.2.2.2.2.1.1.2 4 _ rfl).1 len _) rfl (fun q => by cases q) (by show ¬ (_ ∨ (arrV _ _ _).slots.size ≤ _); rw [arrV_size]; exact zin hj (by omega)) (v := .ref (zad g b)) ?_ rfl rfl hd (kk p e Rm s m args below meth c H locs ls C hR hL hl)
  rw [nI_clamp (by omega), arrV_read _ _ hj]
  show some (va_rf ((R a j).map (zad g))) = _
  rw [hr]; rfl
theorem zAaldSh {len a j b : Nat} {i : Int32} (hd : decode (zmc M) pc = .ok (.aaload, 1)) (hs : zsh a = (25, len)) (ha : a < n) (hi : i = nI j) (hj : j < len) (hr : R a j = some b) (hq : q = pc + 1) (kk : zAW g l d n0 n1 M (I, L, R, n) q lv (.ref b :: st) Q) : zAW g l d n0 n1 M (I, L, R, n) pc lv (.int i :: .ref a :: st) Q := by
  subst hq
  subst hi
  intro p e Rm s m args below meth c H locs ls C hR hL hl
  have hlen : len < 1000 := by have := zsh_small a; rw [hs] at this; exact this
  show W _ _ _ _ _ _ _ _ _ _ _ _ _ _ _ (F0 m pc ls (.int (nI j) :: .ref (zad g a) :: st.map (zrv g)))
  rw [zad_lt hs (by decide)]
  refine W.aald (ty := .object RX8) C.1 C.2.1 (zcell_a (hR.2.1 a ha) hs (by decide)) ((C.2.2.2.2.2.2.2.2.1.1.2 5 _ rfl).1 len _) rfl (fun q => by cases q) (by show ¬ (_ ∨ (arrV _ _ _).slots.size ≤ _); rw [arrV_size]; exact zin hj (by omega)) (v := .ref (zad g b)) ?_ rfl rfl hd (kk p e Rm s m args below meth c H locs ls C hR hL hl)
  rw [nI_clamp (by omega), arrV_read _ _ hj]
  show some (va_rf ((R a j).map (zad g))) = _
  rw [hr]; rfl
theorem zIast {len a j : Nat} {i : Int32} {x : Int32} (hd : decode (zmc M) pc = .ok (.iastore, 1)) (hs : zsh a = (20, len)) (ha : a < n) (hi : i = nI j) (hj : j < len) (hq : q = pc + 1) (kk : zAW g l d n0 n1 M (zup I a (zup (I a) j x), L, R, n) q lv st Q) : zAW g l d n0 n1 M (I, L, R, n) pc lv (.int x :: .int i :: .ref a :: st) Q := by
  subst hq
  subst hi
  intro p e Rm s m args below meth c H locs ls C hR hL hl
  have hlen : len < 1000 := by have := zsh_small a; rw [hs] at this; exact this
  show W _ _ _ _ _ _ _ _ _ _ _ _ _ _ _ (F0 m pc ls (.int x :: .int (nI j) :: .ref (zad g a) :: st.map (zrv g)))
  rw [zad_lt hs (by decide)]
  refine W.iast C.1 C.2.1 (zcell_a (hR.2.1 a ha) hs (by decide)) ((C.2.2.2.2.2.2.2.2.1.1.2 0 _ rfl).1 len _) (fun q => by cases q) (by show ¬ (_ ∨ (arrV _ _ _).slots.size ≤ _); rw [arrV_size]; exact zin hj (by omega)) rfl rfl hd fun H' e1 e2 e3 => ?_
  rw [nI_clamp (by omega)] at e1 ⊢
  refine kk p e Rm s m args below meth c H' _ ls C (zRep_upI hR ha e2 e3 (zcell_ai hs (by decide) (e1.trans (congrArg some (zarr_st (fun j => zel_upi (by decide) (by decide) j)))))) (fun z hz => ?_) hl
  rcases List.mem_append.mp hz with hz | hz
  · exact hL z hz
  · rw [List.mem_singleton.mp hz]; exact Nat.le_add_right _ _
theorem zLast {len a j : Nat} {i : Int32} {x : Int64} (hd : decode (zmc M) pc = .ok (.lastore, 1)) (hs : zsh a = (21, len)) (ha : a < n) (hi : i = nI j) (hj : j < len) (hq : q = pc + 1) (kk : zAW g l d n0 n1 M (I, zup L a (zup (L a) j x), R, n) q lv st Q) : zAW g l d n0 n1 M (I, L, R, n) pc lv (.long x :: .int i :: .ref a :: st) Q := by
  subst hq
  subst hi
  intro p e Rm s m args below meth c H locs ls C hR hL hl
  have hlen : len < 1000 := by have := zsh_small a; rw [hs] at this; exact this
  show W _ _ _ _ _ _ _ _ _ _ _ _ _ _ _ (F0 m pc ls (.long x :: .int (nI j) :: .ref (zad g a) :: st.map (zrv g)))
  rw [zad_lt hs (by decide)]
  refine W.last C.1 C.2.1 (zcell_a (hR.2.1 a ha) hs (by decide)) ((C.2.2.2.2.2.2.2.2.1.1.2 1 _ rfl).1 len _) (fun q => by cases q) (by show ¬ (_ ∨ (arrV _ _ _).slots.size ≤ _); rw [arrV_size]; exact zin hj (by omega)) rfl rfl hd fun H' e1 e2 e3 => ?_
  rw [nI_clamp (by omega)] at e1 ⊢
  refine kk p e Rm s m args below meth c H' _ ls C (zRep_upL hR ha e2 e3 (zcell_ai hs (by decide) (e1.trans (congrArg some (zarr_st (fun j => zel_upl j)))))) (fun z hz => ?_) hl
  rcases List.mem_append.mp hz with hz | hz
  · exact hL z hz
  · rw [List.mem_singleton.mp hz]; exact Nat.le_add_right _ _
theorem zBast {len a j : Nat} {i : Int32} {x : Int32} (hd : decode (zmc M) pc = .ok (.bastore, 1)) (hs : zsh a = (22, len)) (ha : a < n) (hi : i = nI j) (hj : j < len) (hq : q = pc + 1) (kk : zAW g l d n0 n1 M (zup I a (zup (I a) j x.toInt8.toInt32), L, R, n) q lv st Q) : zAW g l d n0 n1 M (I, L, R, n) pc lv (.int x :: .int i :: .ref a :: st) Q := by
  subst hq
  subst hi
  intro p e Rm s m args below meth c H locs ls C hR hL hl
  have hlen : len < 1000 := by have := zsh_small a; rw [hs] at this; exact this
  show W _ _ _ _ _ _ _ _ _ _ _ _ _ _ _ (F0 m pc ls (.int x :: .int (nI j) :: .ref (zad g a) :: st.map (zrv g)))
  rw [zad_lt hs (by decide)]
  refine W.bast C.1 C.2.1 (zcell_a (hR.2.1 a ha) hs (by decide)) ((C.2.2.2.2.2.2.2.2.1.1.2 2 _ rfl).1 len _) (fun q => by cases q) (by show ¬ (_ ∨ (arrV _ _ _).slots.size ≤ _); rw [arrV_size]; exact zin hj (by omega)) rfl rfl hd fun H' e1 e2 e3 => ?_
  rw [nI_clamp (by omega)] at e1 ⊢
  refine kk p e Rm s m args below meth c H' _ ls C (zRep_upI hR ha e2 e3 (zcell_ai hs (by decide) (e1.trans (congrArg some (zarr_st (fun j => zel_upi (by decide) (by decide) j)))))) (fun z hz => ?_) hl
  rcases List.mem_append.mp hz with hz | hz
  · exact hL z hz
  · rw [List.mem_singleton.mp hz]; exact Nat.le_add_right _ _
theorem zSast {len a j : Nat} {i : Int32} {x : Int32} (hd : decode (zmc M) pc = .ok (.sastore, 1)) (hs : zsh a = (23, len)) (ha : a < n) (hi : i = nI j) (hj : j < len) (hq : q = pc + 1) (kk : zAW g l d n0 n1 M (zup I a (zup (I a) j x.toInt16.toInt32), L, R, n) q lv st Q) : zAW g l d n0 n1 M (I, L, R, n) pc lv (.int x :: .int i :: .ref a :: st) Q := by
  subst hq
  subst hi
  intro p e Rm s m args below meth c H locs ls C hR hL hl
  have hlen : len < 1000 := by have := zsh_small a; rw [hs] at this; exact this
  show W _ _ _ _ _ _ _ _ _ _ _ _ _ _ _ (F0 m pc ls (.int x :: .int (nI j) :: .ref (zad g a) :: st.map (zrv g)))
  rw [zad_lt hs (by decide)]
  refine W.sast C.1 C.2.1 (zcell_a (hR.2.1 a ha) hs (by decide)) ((C.2.2.2.2.2.2.2.2.1.1.2 3 _ rfl).1 len _) (fun q => by cases q) (by show ¬ (_ ∨ (arrV _ _ _).slots.size ≤ _); rw [arrV_size]; exact zin hj (by omega)) rfl rfl hd fun H' e1 e2 e3 => ?_
  rw [nI_clamp (by omega)] at e1 ⊢
  refine kk p e Rm s m args below meth c H' _ ls C (zRep_upI hR ha e2 e3 (zcell_ai hs (by decide) (e1.trans (congrArg some (zarr_st (fun j => zel_upi (by decide) (by decide) j)))))) (fun z hz => ?_) hl
  rcases List.mem_append.mp hz with hz | hz
  · exact hL z hz
  · rw [List.mem_singleton.mp hz]; exact Nat.le_add_right _ _
theorem zGetS0 {idx : Nat} (hd : decode (zmc M) pc = .ok (.getstatic idx, 3)) (hf : Cond.fieldLink (zmo M) idx RX9 "LEAST" "[I" ∈ zWT) (hq : q = pc + 3) (kk : zAW g l d n0 n1 M w q lv (.ref 1000 :: st) Q) : zAW g l d n0 n1 M w pc lv st Q := by
  subst hq
  intro p e Rm s m args below meth c H locs ls C hR hL hl
  obtain ⟨cf, kf, fi, f, a, cell, h1, h2, h3, h4, h5, h6, h7, h8⟩ := C.2.2.2.2.2.2.2.2.1.2.2.2.2.1.1
  exact W.gets C.1 C.2.1 C.2.2.2.2.2.2.1 (C.2.2.2.2.2.2.2.1 _ hf) h1 h2 h3 h4 (by rw [hR.2.2 a (Nat.not_le.mp h8)]; exact h5) (fun e => by rw [e] at h6; cases h6) h7 rfl hd (kk p e Rm s m args below meth c H locs ls C hR hL hl)
theorem zSi0 {k : Nat} {i : Int32} (hd : decode (zmc M) pc = .ok (.iaload, 1)) (hi : i = nI k) (hk : k < 12) (hq : q = pc + 1) (kk : zAW g l d n0 n1 M w q lv (.int (zstv 0 k) :: st) Q) : zAW g l d n0 n1 M w pc lv (.int i :: .ref 1000 :: st) Q := by
  subst hq
  subst hi
  intro p e Rm s m args below meth c H locs ls C hR hL hl
  obtain ⟨cell, h1, h2, h3, h4, h5, h6, h7⟩ := C.2.2.2.2.2.2.2.2.1.2.2.2.2.2.1.1
  refine W.iald (v := .int (zstv 0 k)) C.1 C.2.1 (a := zgS g 0) (by rw [hR.2.2 _ (Nat.not_le.mp h7)]; exact h1) h2 h3 (fun z => ?_) ?_ rfl rfl hd (kk p e Rm s m args below meth c H locs ls C hR hL hl)
  · have := zin hk (by decide)
    rcases z with z | z
    · exact this (Or.inl z)
    · exact this (Or.inr (Nat.le_trans h4 z))
  · rw [nI_clamp (by omega)]; exact h6 k hk
theorem zGetS1 {idx : Nat} (hd : decode (zmc M) pc = .ok (.getstatic idx, 3)) (hf : Cond.fieldLink (zmo M) idx RX9 "MOST" "[I" ∈ zWT) (hq : q = pc + 3) (kk : zAW g l d n0 n1 M w q lv (.ref 1001 :: st) Q) : zAW g l d n0 n1 M w pc lv st Q := by
  subst hq
  intro p e Rm s m args below meth c H locs ls C hR hL hl
  obtain ⟨cf, kf, fi, f, a, cell, h1, h2, h3, h4, h5, h6, h7, h8⟩ := C.2.2.2.2.2.2.2.2.1.2.2.2.2.1.2.1
  exact W.gets C.1 C.2.1 C.2.2.2.2.2.2.1 (C.2.2.2.2.2.2.2.1 _ hf) h1 h2 h3 h4 (by rw [hR.2.2 a (Nat.not_le.mp h8)]; exact h5) (fun e => by rw [e] at h6; cases h6) h7 rfl hd (kk p e Rm s m args below meth c H locs ls C hR hL hl)
theorem zSi1 {k : Nat} {i : Int32} (hd : decode (zmc M) pc = .ok (.iaload, 1)) (hi : i = nI k) (hk : k < 12) (hq : q = pc + 1) (kk : zAW g l d n0 n1 M w q lv (.int (zstv 1 k) :: st) Q) : zAW g l d n0 n1 M w pc lv (.int i :: .ref 1001 :: st) Q := by
  subst hq
  subst hi
  intro p e Rm s m args below meth c H locs ls C hR hL hl
  obtain ⟨cell, h1, h2, h3, h4, h5, h6, h7⟩ := C.2.2.2.2.2.2.2.2.1.2.2.2.2.2.1.2.1
  refine W.iald (v := .int (zstv 1 k)) C.1 C.2.1 (a := zgS g 1) (by rw [hR.2.2 _ (Nat.not_le.mp h7)]; exact h1) h2 h3 (fun z => ?_) ?_ rfl rfl hd (kk p e Rm s m args below meth c H locs ls C hR hL hl)
  · have := zin hk (by decide)
    rcases z with z | z
    · exact this (Or.inl z)
    · exact this (Or.inr (Nat.le_trans h4 z))
  · rw [nI_clamp (by omega)]; exact h6 k hk
theorem zGetS2 {idx : Nat} (hd : decode (zmc M) pc = .ok (.getstatic idx, 3)) (hf : Cond.fieldLink (zmo M) idx RX0 "ABOVE" "[I" ∈ zWT) (hq : q = pc + 3) (kk : zAW g l d n0 n1 M w q lv (.ref 1002 :: st) Q) : zAW g l d n0 n1 M w pc lv st Q := by
  subst hq
  intro p e Rm s m args below meth c H locs ls C hR hL hl
  obtain ⟨cf, kf, fi, f, a, cell, h1, h2, h3, h4, h5, h6, h7, h8⟩ := C.2.2.2.2.2.2.2.2.1.2.2.2.2.1.2.2.1
  exact W.gets C.1 C.2.1 C.2.2.2.2.2.2.1 (C.2.2.2.2.2.2.2.1 _ hf) h1 h2 h3 h4 (by rw [hR.2.2 a (Nat.not_le.mp h8)]; exact h5) (fun e => by rw [e] at h6; cases h6) h7 rfl hd (kk p e Rm s m args below meth c H locs ls C hR hL hl)
theorem zSi2 {k : Nat} {i : Int32} (hd : decode (zmc M) pc = .ok (.iaload, 1)) (hi : i = nI k) (hk : k < 8) (hq : q = pc + 1) (kk : zAW g l d n0 n1 M w q lv (.int (zstv 2 k) :: st) Q) : zAW g l d n0 n1 M w pc lv (.int i :: .ref 1002 :: st) Q := by
  subst hq
  subst hi
  intro p e Rm s m args below meth c H locs ls C hR hL hl
  obtain ⟨cell, h1, h2, h3, h4, h5, h6, h7⟩ := C.2.2.2.2.2.2.2.2.1.2.2.2.2.2.1.2.2.1
  refine W.iald (v := .int (zstv 2 k)) C.1 C.2.1 (a := zgS g 2) (by rw [hR.2.2 _ (Nat.not_le.mp h7)]; exact h1) h2 h3 (fun z => ?_) ?_ rfl rfl hd (kk p e Rm s m args below meth c H locs ls C hR hL hl)
  · have := zin hk (by decide)
    rcases z with z | z
    · exact this (Or.inl z)
    · exact this (Or.inr (Nat.le_trans h4 z))
  · rw [nI_clamp (by omega)]; exact h6 k hk
theorem zGetS3 {idx : Nat} (hd : decode (zmc M) pc = .ok (.getstatic idx, 3)) (hf : Cond.fieldLink (zmo M) idx RX0 "OWN" "[I" ∈ zWT) (hq : q = pc + 3) (kk : zAW g l d n0 n1 M w q lv (.ref 1003 :: st) Q) : zAW g l d n0 n1 M w pc lv st Q := by
  subst hq
  intro p e Rm s m args below meth c H locs ls C hR hL hl
  obtain ⟨cf, kf, fi, f, a, cell, h1, h2, h3, h4, h5, h6, h7, h8⟩ := C.2.2.2.2.2.2.2.2.1.2.2.2.2.1.2.2.2
  exact W.gets C.1 C.2.1 C.2.2.2.2.2.2.1 (C.2.2.2.2.2.2.2.1 _ hf) h1 h2 h3 h4 (by rw [hR.2.2 a (Nat.not_le.mp h8)]; exact h5) (fun e => by rw [e] at h6; cases h6) h7 rfl hd (kk p e Rm s m args below meth c H locs ls C hR hL hl)
theorem zSi3 {k : Nat} {i : Int32} (hd : decode (zmc M) pc = .ok (.iaload, 1)) (hi : i = nI k) (hk : k < 32) (hq : q = pc + 1) (kk : zAW g l d n0 n1 M w q lv (.int (zstv 3 k) :: st) Q) : zAW g l d n0 n1 M w pc lv (.int i :: .ref 1003 :: st) Q := by
  subst hq
  subst hi
  intro p e Rm s m args below meth c H locs ls C hR hL hl
  obtain ⟨cell, h1, h2, h3, h4, h5, h6, h7⟩ := C.2.2.2.2.2.2.2.2.1.2.2.2.2.2.1.2.2.2
  refine W.iald (v := .int (zstv 3 k)) C.1 C.2.1 (a := zgS g 3) (by rw [hR.2.2 _ (Nat.not_le.mp h7)]; exact h1) h2 h3 (fun z => ?_) ?_ rfl rfl hd (kk p e Rm s m args below meth c H locs ls C hR hL hl)
  · have := zin hk (by decide)
    rcases z with z | z
    · exact this (Or.inl z)
    · exact this (Or.inr (Nat.le_trans h4 z))
  · rw [nI_clamp (by omega)]; exact h6 k hk
theorem zSlen (hd : decode (zmc M) pc = .ok (.arraylength, 1)) (hq : q = pc + 1) (kk : zAW g l d n0 n1 M w q lv (.int (nI (zgL g)) :: st) Q) : zAW g l d n0 n1 M w pc lv (.ref 1004 :: st) Q := by
  subst hq
  intro p e Rm s m args below meth c H locs ls C hR hL hl
  obtain ⟨scr, h1, h2, h3, h4, h5⟩ := C.2.2.2.2.2.2.2.2.1.2.2.2.2.2.2.1
  have hlt := C.2.2.2.2.2.2.2.2.1.2.2.2.2.2.2.2
  exact W.alen (n := nI (zgL g)) C.1 C.2.1 (a := zgS g 4) (by rw [hR.2.2 _ hlt]; exact h1) h2 (by rw [h4] <;> rfl) rfl rfl hd (kk p e Rm s m args below meth c H locs ls C hR hL hl)
theorem zSld {j : Nat} {i : Int32} (hd : decode (zmc M) pc = .ok (.iaload, 1)) (hi : i = nI j) (hj : j < zgL g) (hlen : zgL g < 2 ^ 31) (hq : q = pc + 1) (kk : zAW g l d n0 n1 M w q lv (.int (zgX g j) :: st) Q) : zAW g l d n0 n1 M w pc lv (.int i :: .ref 1004 :: st) Q := by
  subst hq
  subst hi
  intro p e Rm s m args below meth c H locs ls C hR hL hl
  obtain ⟨scr, h1, h2, h3, h4, h5⟩ := C.2.2.2.2.2.2.2.2.1.2.2.2.2.2.2.1
  have hlt := C.2.2.2.2.2.2.2.2.1.2.2.2.2.2.2.2
  exact W.iald (v := .int (zgX g j)) C.1 C.2.1 (a := zgS g 4) (by rw [hR.2.2 _ hlt]; exact h1) h2 h3 (by rw [h4]; exact zin hj hlen) (by rw [nI_clamp (by omega)]; exact h5 j hj) rfl rfl hd (kk p e Rm s m args below meth c H locs ls C hR hL hl)
theorem zIret {v : Int32} {ty : FieldType} (hd : decode (zmc M) pc = .ok (.ireturn, 1)) (hr : zmr M = some ty) (hn : narrow ty (.int v) = .int v) (hw : w.2.2.2 = n1) (hQ : Q (some (.int v)) w) : zAW g l d n0 n1 M w pc lv [.int v] Q := by
  intro p e Rm s m args below meth c H locs ls C hR hL hl
  have hlk := C.2.2.2.2.1
  subst hw
  exact W.zret C.1 C.2.1 (C.2.2.2.1.trans hr) hn (fun t ht _ => ⟨some (.int v), w, rfl, rfl, hQ, by rw [ht]; exact hR⟩) hL hd hlk
theorem zLret {v : Int64} (hd : decode (zmc M) pc = .ok (.lreturn, 1)) (hr : zmr M = some .long) (hw : w.2.2.2 = n1) (hQ : Q (some (.long v)) w) : zAW g l d n0 n1 M w pc lv [.long v] Q := by
  intro p e Rm s m args below meth c H locs ls C hR hL hl
  have hlk := C.2.2.2.2.1
  subst hw
  exact W.lret C.1 C.2.1 (C.2.2.2.1.trans hr) (fun t ht _ => ⟨some (.long v), w, rfl, rfl, hQ, by rw [ht]; exact hR⟩) hL hd hlk
theorem zVret (hd : decode (zmc M) pc = .ok (.return_, 1)) (hr : zmr M = none) (hw : w.2.2.2 = n1) (hQ : Q none w) : zAW g l d n0 n1 M w pc lv [] Q := by
  intro p e Rm s m args below meth c H locs ls C hR hL hl
  have hlk := C.2.2.2.2.1
  subst hw
  exact W.vret C.1 C.2.1 (C.2.2.2.1.trans hr) (fun t ht _ => ⟨none, w, rfl, rfl, hQ, by rw [ht]; exact hR⟩) hL hd hlk
theorem zAret {v : Value} {rt : FieldType} (hd : decode (zmc M) pc = .ok (.areturn, 1)) (hr : zmr M = some rt) (hrt : (∃ n, rt = .object n) ∨ ∃ t, rt = .array t) (hv : v = .null ∨ ∃ a, v = .ref a) (hw : w.2.2.2 = n1) (hQ : Q (some v) w) : zAW g l d n0 n1 M w pc lv [v] Q := by
  intro p e Rm s m args below meth c H locs ls C hR hL hl
  have hlk := C.2.2.2.2.1
  subst hw
  exact W.aret C.1 C.2.1 (C.2.2.2.1.trans hr) hrt (v := zrv g v) (by rcases hv with rfl | ⟨a, rfl⟩; exact Or.inl rfl; exact Or.inr ⟨_, rfl⟩) (fun t ht _ => ⟨some v, w, rfl, rfl, hQ, by rw [ht]; exact hR⟩) hL hd hlk
theorem zTabAt {dflt lo hi : Int} {offs : Array Int} {ln : Nat} {x v : Int32} {off : Int} (hx : x = v) (hd : decode (zmc M) pc = .ok (.tableswitch dflt lo hi offs, ln)) (h1 : ¬ v.toInt < lo) (h2 : ¬ hi < v.toInt) (ho : offs[(v.toInt - lo).toNat]? = some off) (ht : (pc : Int) + off = (q : Int)) (k : zAW g l d n0 n1 M w q lv st Q) : zAW g l d n0 n1 M w pc lv (.int x :: st) Q := by
  subst hx
  intro p e R s m args below meth c H locs ls C hR hL hl
  exact lv_tableIn C.1 C.2.1 hd h1 h2 ho ht (k p e R s m args below meth c H locs ls C hR hL hl)
theorem zTabOut {dflt lo hi : Int} {offs : Array Int} {ln : Nat} {x : Int32} (hd : decode (zmc M) pc = .ok (.tableswitch dflt lo hi offs, ln)) (h : x.toInt < lo ∨ hi < x.toInt) (ht : (pc : Int) + dflt = (q : Int)) (k : zAW g l d n0 n1 M w q lv st Q) : zAW g l d n0 n1 M w pc lv (.int x :: st) Q := by
  intro p e R s m args below meth c H locs ls C hR hL hl
  exact lv_tableOut C.1 C.2.1 hd h ht (k p e R s m args below meth c H locs ls C hR hL hl)
theorem zLook {dflt : Int} {ps : Array (Int × Int)} {ln : Nat} {x : Int32} {off : Int} (hd : decode (zmc M) pc = .ok (.lookupswitch dflt ps, ln)) (hp : (ps.toList.zip (ps.toList.drop 1)).all (fun (a, next) => a.1 < next.1) = true) (ho : Op.lookupswitch.offset ps.toList dflt x.toInt = off) (ht : (pc : Int) + off = (q : Int)) (k : zAW g l d n0 n1 M w q lv st Q) : zAW g l d n0 n1 M w pc lv (.int x :: st) Q := by
  intro p e R s m args below meth c H locs ls C hR hL hl
  exact lv_lookup C.1 C.2.1 hd hp ho ht (k p e R s m args below meth c H locs ls C hR hL hl)
/-- fewer locals, in any order -/
theorem zSub {lv' : List (Nat × Value)} (ks : List Nat) (h : lv_pick lv ks = lv') (k : zAW g l d n0 n1 M w pc lv' st Q) : zAW g l d n0 n1 M w pc lv st Q := by
  intro p e R s m args below meth c H locs ls C hR hL hl
  refine k p e R s m args below meth c H locs ls C hR hL (lv_sub hl ks ?_)
  subst h
  unfold lv_pick zlv
  rw [List.map_filterMap]
  congr 1
  funext i
  rw [List.getElem?_map]
theorem zMono {Q' : Option Value → zW → Prop} (h : ∀ v w, Q' v w → Q v w) (k : zAW g l d n0 n1 M w pc lv st Q') : zAW g l d n0 n1 M w pc lv st Q := by
  intro p e R s m args below meth c H locs ls C hR hL hl T hT X
  obtain ⟨t, a, o, b1, b2, b3, b4⟩ := k p e R s m args below meth c H locs ls C hR hL hl T hT X
  obtain ⟨v, w', c1, c2, c3, c4⟩ := b3
  exact ⟨t, a, o, b1, b2, ⟨v, w', c1, c2, h _ _ c3, c4⟩, b4⟩
end ZF
