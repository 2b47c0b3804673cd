section ZY
variable {g : zG} {l : Launch} {d n0 n1 : Nat} {M : zM} {w : zW} {I : Nat → Nat → Int32} {L : Nat → Nat → Int64} {R : Nat → Nat → Option Nat} {n pc q : Nat} {lv : List (Nat × Value)} {st : List Value} {Q : Option Value → zW → Prop}
theorem znat_words : nativeFrameWords "java/lang/System" "arraycopy" 5 ≤ 40 := by decide +kernel
theorem zToInt {k : Nat} (h : k < 2 ^ 31) : (nI k).toInt = ((nI k).toNatClampNeg : Int) := by rw [nI_toInt h, nI_clamp h]
theorem zel20 {g : zG} {i : Nat → Int32} {lo : Nat → Int64} {r : Nat → Option Nat} : zel g i lo r 20 = fun j => .int (i j) := rfl
theorem zel21 {g : zG} {i : Nat → Int32} {lo : Nat → Int64} {r : Nat → Option Nat} : zel g i lo r 21 = fun j => .long (lo j) := rfl
theorem zCopyI {idx a0 a len0 len1 i j k : Nat} {x y z : Int32} (hd : decode (zmc M) pc = .ok (.invokestatic idx, 3)) (hl0 : Cond.methodLink (zmo M) idx arraycopyName ∈ zWT) (hs0 : zsh a0 = (20, len0)) (ha0 : a0 < n) (hs1 : zsh a = (20, len1)) (ha : a < n) (hx : x = nI i) (hy : y = nI j) (hz : z = nI k) (h4 : i + k ≤ len0) (h5 : j + k ≤ len1) (h1d : 2 ≤ d) (hcat : (st.map fun v => v.category).sum ≤ 8) (hq : q = pc + 3)
    (kk : zAW g l d n0 n1 M (zup I a (va_cpy (I a0) (I a) i j k), L, R, n) q lv st Q) : zAW g l d n0 n1 M (I, L, R, n) pc lv (.int z :: .int y :: .ref a :: .int x :: .ref a0 :: st) Q := by
  subst hq
  subst hx
  subst hy
  subst hz
  intro p e Rm s m args below meth c H locs ls C hR hL hl
  have g0 : len0 < 1000 := by have := zsh_small a0; rw [hs0] at this; exact this
  have g1 : len1 < 1000 := by have := zsh_small a; rw [hs1] at this; exact this
  obtain ⟨hxc, hb, hml, -, -, -, hown, hts, hSt, ⟨hfr, hlo⟩, -, -⟩ := id C
  have hc0 : H[zgB g + a0]? = some (vp_cell (zgA g 20) (len0, .inl (I a0))) := zcell_a (hR.2.1 a0 ha0) hs0 (by decide)
  have hc1 : H[zgB g + a]? = some (vp_cell (zgA g 20) (len1, .inl (I a))) := zcell_a (hR.2.1 a ha) hs1 (by decide)
  obtain ⟨-, k0, hk0, cm0, hkk0⟩ := (hSt.1.2 0 _ rfl).1 len0 (fun j => .int (I a0 j))
  obtain ⟨-, k1, hk1, cm1, hkk1⟩ := (hSt.1.2 0 _ rfl).1 len1 (fun j => .int (I a j))
  have ee : ((st.map (zrv g)).map fun v => v.category) = st.map fun v => v.category := by rw [List.map_map]; exact List.map_congr_left (fun v _ => zrv_cat g v)
  have ei : (nI i).toNatClampNeg = i := nI_clamp (by omega)
  have ej : (nI j).toNatClampNeg = j := nI_clamp (by omega)
  have ek : (nI k).toNatClampNeg = k := nI_clamp (by omega)
  show W _ _ _ _ _ _ _ _ _ _ _ _ _ _ _ (F0 m pc ls (.int (nI k) :: .int (nI j) :: .ref (zad g a) :: .int (nI i) :: .ref (zad g a0) :: st.map (zrv g)))
  rw [zad_lt hs0 (by decide), zad_lt hs1 (by decide)]
  intro T hT X
  obtain ⟨vm', X', step⟩ := X.arraycopy hxc hown (hts _ hl0) (hts _ na_copy) (hts _ st_copy) (hts _ it_sys) (src := zgB g + a0) (dst := zgB g + a) (cs := vp_cell (zgA g 20) (len0, .inl (I a0))) (cd := vp_cell (zgA g 20) (len1, .inl (I a))) (srcPos := nI i) (destPos := nI j) (n := nI k) (by rw [hT]; exact hc0) (by rw [hT]; exact hc1)
    (fun _ h => by cases h) (fun _ h => by cases h) (fun h => by cases h) (fun h => by cases h) hk0 hk1 hkk0 hkk1 (by rfl) (nI_pos (by omega)) (nI_pos (by omega)) (nI_pos (by omega))
    (by rw [nI_toInt (by omega), nI_toInt (by omega)]; show ¬ _ > ((arrV (zgA g 20) len0 (fun j => .int (I a0 j))).slots.size : Int); rw [arrV_size]; omega)
    (by rw [nI_toInt (by omega), nI_toInt (by omega)]; show ¬ _ > ((arrV (zgA g 20) len1 (fun j => .int (I a j))).slots.size : Int); rw [arrV_size]; omega)
    (fun vm₁ _ t ht => by
      have e : (vp_cell (zgA g 20) (len0, .inl (I a0))).slots.getD ((nI i).toNatClampNeg + t) .null = .int (I a0 ((nI i).toNatClampNeg + t)) := by
        show (arrV (zgA g 20) len0 (fun j => .int (I a0 j))).slots.getD _ _ = _
        rw [Array.getD_eq_getD_getElem?, arrV_read _ _ (by omega)]
        rfl
      refine ⟨?_, ?_⟩
      · rw [e]; rfl
      · rw [e]; exact trivial)
    (g := F0 m pc ls (.int (nI k) :: .int (nI j) :: .ref (zgB g + a) :: .int (nI i) :: .ref (zgB g + a0) :: st.map (zrv g))) rfl (by rw [hml]; exact hl.1) (rest := st.map (zrv g)) rfl (by rw [hb]; exact hd) (Nat.le_trans (by omega) hfr) (by show 2 * 0 + _ + _ ≤ _; rw [ee]; have := znat_words; omega)
  have e1 : copied (vp_cell (zgA g 20) (len0, .inl (I a0))) (vp_cell (zgA g 20) (len1, .inl (I a))) (nI i) (nI j) (nI k) = vp_cell (zgA g 20) (len1, .inl (va_cpy (I a0) (I a) i j k)) := by
    have h : copied (vp_cell (zgA g 20) (len0, .inl (I a0))) (vp_cell (zgA g 20) (len1, .inl (I a))) (nI i) (nI j) (nI k) = vp_cell (zgA g 20) (len1, .inl (va_cpy (I a0) (I a) (nI i).toNatClampNeg (nI j).toNatClampNeg (nI k).toNatClampNeg)) := va_copied (fun z => .int z) (zgA g 20) (zgA g 20) (I a0) (I a) (by rw [ei, ek]; exact h4)
    rw [ei, ej, ek] at h
    exact h
  rw [e1] at X' step
  have hlt : zgB g + a < H.size := (Array.getElem?_eq_some_iff.mp hc1).1
  have hheap : ((T.setVm vm').setCell (zgB g + a) (vp_cell (zgA g 20) (len1, .inl (va_cpy (I a0) (I a) i j k)))).heap = H.setIfInBounds (zgB g + a) (vp_cell (zgA g 20) (len1, .inl (va_cpy (I a0) (I a) i j k))) := by rw [← hT]; rfl
  have oq : ∀ q : Nat, q ≠ zgB g + a → (H.setIfInBounds (zgB g + a) (vp_cell (zgA g 20) (len1, .inl (va_cpy (I a0) (I a) i j k))))[q]? = H[q]? := fun q hq => by simp [Array.getElem?_setIfInBounds, Ne.symm hq]
  have hR' : zRep g (zup I a (va_cpy (I a0) (I a) i j k), L, R, n) (H.setIfInBounds (zgB g + a) (vp_cell (zgA g 20) (len1, .inl (va_cpy (I a0) (I a) i j k)))) :=
    zRep_upI hR ha (by simp) oq (zcell_ai hs1 (by decide) (show (H.setIfInBounds (zgB g + a) _)[zgB g + a]? = some _ by rw [Array.getElem?_setIfInBounds, if_pos rfl, if_pos hlt]; rfl))
  obtain ⟨t, a1, b1⟩ := kk p e Rm s m args below meth c _ _ ls C hR' (fun q hq => by
      rcases List.mem_append.mp hq with h | h
      · exact hL q h
      · obtain ⟨z, -, hz⟩ := List.mem_map.mp h
        rw [← hz]
        exact Nat.le_add_right _ _) hl _ hheap X'
  exact ⟨t, step t a1, b1⟩
theorem zCopyL {idx a0 a len0 len1 i j k : Nat} {x y z : Int32} (hd : decode (zmc M) pc = .ok (.invokestatic idx, 3)) (hl0 : Cond.methodLink (zmo M) idx arraycopyName ∈ zWT) (hs0 : zsh a0 = (21, len0)) (ha0 : a0 < n) (hs1 : zsh a = (21, len1)) (ha : a < n) (hx : x = nI i) (hy : y = nI j) (hz : z = nI k) (h4 : i + k ≤ len0) (h5 : j + k ≤ len1) (h1d : 2 ≤ d) (hcat : (st.map fun v => v.category).sum ≤ 8) (hq : q = pc + 3)
    (kk : zAW g l d n0 n1 M (I, zup L a (va_cpy (L a0) (L a) i j k), R, n) q lv st Q) : zAW g l d n0 n1 M (I, L, R, n) pc lv (.int z :: .int y :: .ref a :: .int x :: .ref a0 :: st) Q := by
  subst hq
  subst hx
  subst hy
  subst hz
  intro p e Rm s m args below meth c H locs ls C hR hL hl
  have g0 : len0 < 1000 := by have := zsh_small a0; rw [hs0] at this; exact this
  have g1 : len1 < 1000 := by have := zsh_small a; rw [hs1] at this; exact this
  obtain ⟨hxc, hb, hml, -, -, -, hown, hts, hSt, ⟨hfr, hlo⟩, -, -⟩ := id C
  have hc0 : H[zgB g + a0]? = some (vp_cell (zgA g 21) (len0, .inr (.inl (L a0)))) := zcell_a (hR.2.1 a0 ha0) hs0 (by decide)
  have hc1 : H[zgB g + a]? = some (vp_cell (zgA g 21) (len1, .inr (.inl (L a)))) := zcell_a (hR.2.1 a ha) hs1 (by decide)
  obtain ⟨-, k0, hk0, cm0, hkk0⟩ := (hSt.1.2 1 _ rfl).1 len0 (fun j => .long (L a0 j))
  obtain ⟨-, k1, hk1, cm1, hkk1⟩ := (hSt.1.2 1 _ rfl).1 len1 (fun j => .long (L a j))
  have ee : ((st.map (zrv g)).map fun v => v.category) = st.map fun v => v.category := by rw [List.map_map]; exact List.map_congr_left (fun v _ => zrv_cat g v)
  have ei : (nI i).toNatClampNeg = i := nI_clamp (by omega)
  have ej : (nI j).toNatClampNeg = j := nI_clamp (by omega)
  have ek : (nI k).toNatClampNeg = k := nI_clamp (by omega)
  show W _ _ _ _ _ _ _ _ _ _ _ _ _ _ _ (F0 m pc ls (.int (nI k) :: .int (nI j) :: .ref (zad g a) :: .int (nI i) :: .ref (zad g a0) :: st.map (zrv g)))
  rw [zad_lt hs0 (by decide), zad_lt hs1 (by decide)]
  intro T hT X
  obtain ⟨vm', X', step⟩ := X.arraycopy hxc hown (hts _ hl0) (hts _ na_copy) (hts _ st_copy) (hts _ it_sys) (src := zgB g + a0) (dst := zgB g + a) (cs := vp_cell (zgA g 21) (len0, .inr (.inl (L a0)))) (cd := vp_cell (zgA g 21) (len1, .inr (.inl (L a)))) (srcPos := nI i) (destPos := nI j) (n := nI k) (by rw [hT]; exact hc0) (by rw [hT]; exact hc1)
    (fun _ h => by cases h) (fun _ h => by cases h) (fun h => by cases h) (fun h => by cases h) hk0 hk1 hkk0 hkk1 (by rfl) (nI_pos (by omega)) (nI_pos (by omega)) (nI_pos (by omega))
    (by rw [nI_toInt (by omega), nI_toInt (by omega)]; show ¬ _ > ((arrV (zgA g 21) len0 (fun j => .long (L a0 j))).slots.size : Int); rw [arrV_size]; omega)
    (by rw [nI_toInt (by omega), nI_toInt (by omega)]; show ¬ _ > ((arrV (zgA g 21) len1 (fun j => .long (L a j))).slots.size : Int); rw [arrV_size]; omega)
    (fun vm₁ _ t ht => by
      have e : (vp_cell (zgA g 21) (len0, .inr (.inl (L a0)))).slots.getD ((nI i).toNatClampNeg + t) .null = .long (L a0 ((nI i).toNatClampNeg + t)) := by
        show (arrV (zgA g 21) len0 (fun j => .long (L a0 j))).slots.getD _ _ = _
        rw [Array.getD_eq_getD_getElem?, arrV_read _ _ (by omega)]
        rfl
      refine ⟨?_, ?_⟩
      · rw [e]; rfl
      · rw [e]; exact trivial)
    (g := F0 m pc ls (.int (nI k) :: .int (nI j) :: .ref (zgB g + a) :: .int (nI i) :: .ref (zgB g + a0) :: st.map (zrv g))) rfl (by rw [hml]; exact hl.1) (rest := st.map (zrv g)) rfl (by rw [hb]; exact hd) (Nat.le_trans (by omega) hfr) (by show 2 * 0 + _ + _ ≤ _; rw [ee]; have := znat_words; omega)
  have e1 : copied (vp_cell (zgA g 21) (len0, .inr (.inl (L a0)))) (vp_cell (zgA g 21) (len1, .inr (.inl (L a)))) (nI i) (nI j) (nI k) = vp_cell (zgA g 21) (len1, .inr (.inl (va_cpy (L a0) (L a) i j k))) := by
    have h : copied (vp_cell (zgA g 21) (len0, .inr (.inl (L a0)))) (vp_cell (zgA g 21) (len1, .inr (.inl (L a)))) (nI i) (nI j) (nI k) = vp_cell (zgA g 21) (len1, .inr (.inl (va_cpy (L a0) (L a) (nI i).toNatClampNeg (nI j).toNatClampNeg (nI k).toNatClampNeg))) := va_copied (fun z => .long z) (zgA g 21) (zgA g 21) (L a0) (L a) (by rw [ei, ek]; exact h4)
    rw [ei, ej, ek] at h
    exact h
  rw [e1] at X' step
  have hlt : zgB g + a < H.size := (Array.getElem?_eq_some_iff.mp hc1).1
  have hheap : ((T.setVm vm').setCell (zgB g + a) (vp_cell (zgA g 21) (len1, .inr (.inl (va_cpy (L a0) (L a) i j k))))).heap = H.setIfInBounds (zgB g + a) (vp_cell (zgA g 21) (len1, .inr (.inl (va_cpy (L a0) (L a) i j k)))) := by rw [← hT]; rfl
  have oq : ∀ q : Nat, q ≠ zgB g + a → (H.setIfInBounds (zgB g + a) (vp_cell (zgA g 21) (len1, .inr (.inl (va_cpy (L a0) (L a) i j k)))))[q]? = H[q]? := fun q hq => by simp [Array.getElem?_setIfInBounds, Ne.symm hq]
  have hR' : zRep g (I, zup L a (va_cpy (L a0) (L a) i j k), R, n) (H.setIfInBounds (zgB g + a) (vp_cell (zgA g 21) (len1, .inr (.inl (va_cpy (L a0) (L a) i j k))))) :=
    zRep_upL hR ha (by simp) oq (zcell_ai hs1 (by decide) (show (H.setIfInBounds (zgB g + a) _)[zgB g + a]? = some _ by rw [Array.getElem?_setIfInBounds, if_pos rfl, if_pos hlt]; rfl))
  obtain ⟨t, a1, b1⟩ := kk p e Rm s m args below meth c _ _ ls C hR' (fun q hq => by
      rcases List.mem_append.mp hq with h | h
      · exact hL q h
      · obtain ⟨z, -, hz⟩ := List.mem_map.mp h
        rw [← hz]
        exact Nat.le_add_right _ _) hl _ hheap X'
  exact ⟨t, step t a1, b1⟩
end ZY
