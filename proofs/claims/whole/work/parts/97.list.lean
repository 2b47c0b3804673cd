/-! WORLDS AS LISTS: what was written since nothing was -/
def zIl : List (Nat × Nat × Int32) → Nat → Nat → Int32
  | [], _, _ => 0
  | q :: r, a, k => cond (Nat.beq q.1 a && Nat.beq q.2.1 k) q.2.2 (zIl r a k)
def zRl : List (Nat × Nat × Nat) → Nat → Nat → Option Nat
  | [], _, _ => none
  | q :: r, a, k => cond (Nat.beq q.1 a && Nat.beq q.2.1 k) (some q.2.2) (zRl r a k)
def zL0 (_ _ : Nat) : Int64 := 0
def zFi (is : List (Nat × Nat × Int32)) (n : Nat) : Prop := ∀ q ∈ is, q.1 < n
def zFp (ps : List (Nat × Nat × Nat)) (n : Nat) : Prop := ∀ q ∈ ps, q.1 < n
theorem zFiS {is : List (Nat × Nat × Int32)} {n : Nat} (h : zFi is n) : zFi is (n + 1) := fun q hq => Nat.lt_succ_of_lt (h q hq)
theorem zFpS {ps : List (Nat × Nat × Nat)} {n : Nat} (h : zFp ps n) : zFp ps (n + 1) := fun q hq => Nat.lt_succ_of_lt (h q hq)
theorem zFiC {is : List (Nat × Nat × Int32)} {n a k : Nat} {x : Int32} (ha : a < n) (h : zFi is n) : zFi ((a, k, x) :: is) n := fun q hq => by
  rcases List.mem_cons.mp hq with rfl | hq
  · exact ha
  · exact h q hq
theorem zFpC {ps : List (Nat × Nat × Nat)} {n a k b : Nat} (ha : a < n) (h : zFp ps n) : zFp ((a, k, b) :: ps) n := fun q hq => by
  rcases List.mem_cons.mp hq with rfl | hq
  · exact ha
  · exact h q hq
theorem zbeq2 {a b c d : Nat} (h : ¬ (a = c ∧ b = d)) : (Nat.beq a c && Nat.beq b d) = false := by
  cases h1 : Nat.beq a c with
  | false => rfl
  | true =>
    cases h2 : Nat.beq b d with
    | false => rfl
    | true => exact absurd ⟨Nat.eq_of_beq_eq_true h1, Nat.eq_of_beq_eq_true h2⟩ h
theorem zIl_up {is : List (Nat × Nat × Int32)} {a k : Nat} {x : Int32} : zup (zIl is) a (zup (zIl is a) k x) = zIl ((a, k, x) :: is) := by
  funext b j
  show _ = cond (Nat.beq a b && Nat.beq k j) x (zIl is b j)
  by_cases h : a = b ∧ k = j
  · obtain ⟨rfl, rfl⟩ := h
    rw [zup_eq, zup_eq, Nat.beq_refl, Nat.beq_refl]; rfl
  · rw [zbeq2 h]
    by_cases e : b = a
    · subst e
      rw [zup_eq, zup_ne (fun z => h ⟨rfl, z.symm⟩)]; rfl
    · rw [zup_ne e]; rfl
theorem zRl_up {ps : List (Nat × Nat × Nat)} {a k b : Nat} : zup (zRl ps) a (zup (zRl ps a) k (some b)) = zRl ((a, k, b) :: ps) := by
  funext c j
  show _ = cond (Nat.beq a c && Nat.beq k j) (some b) (zRl ps c j)
  by_cases h : a = c ∧ k = j
  · obtain ⟨rfl, rfl⟩ := h
    rw [zup_eq, zup_eq, Nat.beq_refl, Nat.beq_refl]; rfl
  · rw [zbeq2 h]
    by_cases e : c = a
    · subst e
      rw [zup_eq, zup_ne (fun z => h ⟨rfl, z.symm⟩)]; rfl
    · rw [zup_ne e]; rfl
theorem zIl_fr {n : Nat} : ∀ {is : List (Nat × Nat × Int32)}, zFi is n → ∀ k, zIl is n k = 0
  | [], _, _ => rfl
  | q :: r, h, k => by
    show cond (Nat.beq q.1 n && Nat.beq q.2.1 k) q.2.2 (zIl r n k) = 0
    rw [zbeq2 (fun z => by have := h q List.mem_cons_self; omega)]
    exact zIl_fr (is := r) (fun p hp => h p (List.mem_cons_of_mem _ hp)) k
theorem zRl_fr {n : Nat} : ∀ {ps : List (Nat × Nat × Nat)}, zFp ps n → ∀ k, zRl ps n k = none
  | [], _, _ => rfl
  | q :: r, h, k => by
    show cond (Nat.beq q.1 n && Nat.beq q.2.1 k) (some q.2.2) (zRl r n k) = none
    rw [zbeq2 (fun z => by have := h q List.mem_cons_self; omega)]
    exact zRl_fr (ps := r) (fun p hp => h p (List.mem_cons_of_mem _ hp)) k
theorem zFi_mono {is : List (Nat × Nat × Int32)} {m n : Nat} (hm : m ≤ n) (h : zFi is m) : zFi is n := fun q hq => Nat.lt_of_lt_of_le (h q hq) hm
theorem zFp_mono {ps : List (Nat × Nat × Nat)} {m n : Nat} (hm : m ≤ n) (h : zFp ps m) : zFp ps n := fun q hq => Nat.lt_of_lt_of_le (h q hq) hm
def zMw : Nat → List (Nat × Nat × Nat) → List (Nat × Nat × Nat)
  | 0, ps => ps
  | m + 1, ps => (2, m, 3 + m) :: zMw m ps
theorem zMw_ok {ps : List (Nat × Nat × Nat)} : ∀ m, zRl (zMw m ps) = zup (zRl ps) 2 (fun j => if j < m then some (3 + j) else zRl ps 2 j)
  | 0 => by
    funext a k
    by_cases e : a = 2
    · subst e; rw [zup_eq]; rfl
    · rw [zup_ne e]; rfl
  | m + 1 => by
    show zRl ((2, m, 3 + m) :: zMw m ps) = _
    rw [← zRl_up, zMw_ok m, zup_zup, zup_eq]
    congr 1
    funext j
    by_cases e : j = m
    · subst e; rw [zup_eq, if_pos (Nat.lt_succ_self _)]
    · rw [zup_ne e]
      by_cases h : j < m
      · rw [if_pos h, if_pos (by omega)]
      · rw [if_neg h, if_neg (by omega)]
theorem zMw_12 {ps : List (Nat × Nat × Nat)} (hp : zFp ps 2) : zup (zRl ps) 2 (fun j => if j < 12 then some (2 + 1 + j) else none) = zRl ((2, 11, 14) :: (2, 10, 13) :: (2, 9, 12) :: (2, 8, 11) :: (2, 7, 10) :: (2, 6, 9) :: (2, 5, 8) :: (2, 4, 7) :: (2, 3, 6) :: (2, 2, 5) :: (2, 1, 4) :: (2, 0, 3) :: ps) := by
  have h := zMw_ok (ps := ps) 12
  have e : (fun j => if j < 12 then some (3 + j) else zRl ps 2 j) = fun j => if j < 12 then some (2 + 1 + j) else none := funext fun j => by rw [zRl_fr hp]
  rw [e] at h
  exact h.symm
theorem yMultiF {ps : List (Nat × Nat × Nat)} (hp : zFp ps 2) : zFp ((2, 11, 14) :: (2, 10, 13) :: (2, 9, 12) :: (2, 8, 11) :: (2, 7, 10) :: (2, 6, 9) :: (2, 5, 8) :: (2, 4, 7) :: (2, 3, 6) :: (2, 2, 5) :: (2, 1, 4) :: (2, 0, 3) :: ps) 15 :=
  zFpC (by decide) (zFpC (by decide) (zFpC (by decide) (zFpC (by decide) (zFpC (by decide) (zFpC (by decide) (zFpC (by decide) (zFpC (by decide) (zFpC (by decide) (zFpC (by decide) (zFpC (by decide) (zFpC (by decide) (zFp_mono (by decide) hp))))))))))))
section S97
variable {g : zG} {l : Launch} {d n0 n1 : Nat} {M : zM} {is : List (Nat × Nat × Int32)} {ps : List (Nat × Nat × Nat)} {L : Nat → Nat → Int64} {n n2 pc q : Nat} {lv : List (Nat × Value)} {st : List Value} {Q : Option Value → zW → Prop}
theorem yNew {idx kd : Nat} (hd : decode (zmc M) pc = .ok (.new idx, 3)) (hcl : Cond.classLink (zmo M) idx (zcR kd) ∈ zWT) (hin : Cond.instantiable (zcR kd) (zcN kd) ∈ zWT) (hini : Cond.initialized (zcR kd) ∈ zWT) (hkd : kd < 13) (hs : zsh n = (kd, zcN kd)) (hi : zFi is n) (hp : zFp ps n) (hn : n0 ≤ n ∧ n < n1) (hm : n + 1 = n2) (hq : q = pc + 3)
    (kk : zAW g l d n0 n1 M (zIl is, zL0, zRl ps, n2) q lv (.ref n :: st) Q) : zAW g l d n0 n1 M (zIl is, zL0, zRl ps, n) pc lv st Q := by
  subst hm
  exact zNew hd hcl hin hini hkd hs (zIl_fr hi) (zRl_fr hp) hn hq kk
theorem yNewI {len : Nat} {x : Int32} (hd : decode (zmc M) pc = .ok (.newarray .int, 2)) (hx : x = nI len) (hs : zsh n = (20, len)) (hi : zFi is n) (hp : zFp ps n) (hn : n0 ≤ n ∧ n < n1) (hm : n + 1 = n2) (hq : q = pc + 2)
    (kk : zAW g l d n0 n1 M (zIl is, zL0, zRl ps, n2) q lv (.ref n :: st) Q) : zAW g l d n0 n1 M (zIl is, zL0, zRl ps, n) pc lv (.int x :: st) Q := by
  subst hm
  exact zNewI hd hx hs (zIl_fr hi) hn hq kk
theorem yNewL {len : Nat} {x : Int32} (hd : decode (zmc M) pc = .ok (.newarray .long, 2)) (hx : x = nI len) (hs : zsh n = (21, len)) (hi : zFi is n) (hp : zFp ps n) (hn : n0 ≤ n ∧ n < n1) (hm : n + 1 = n2) (hq : q = pc + 2)
    (kk : zAW g l d n0 n1 M (zIl is, zL0, zRl ps, n2) q lv (.ref n :: st) Q) : zAW g l d n0 n1 M (zIl is, zL0, zRl ps, n) pc lv (.int x :: st) Q := by
  subst hm
  exact zNewL hd hx hs (fun _ => rfl) hn hq kk
theorem yNewB {len : Nat} {x : Int32} (hd : decode (zmc M) pc = .ok (.newarray .byte, 2)) (hx : x = nI len) (hs : zsh n = (22, len)) (hi : zFi is n) (hp : zFp ps n) (hn : n0 ≤ n ∧ n < n1) (hm : n + 1 = n2) (hq : q = pc + 2)
    (kk : zAW g l d n0 n1 M (zIl is, zL0, zRl ps, n2) q lv (.ref n :: st) Q) : zAW g l d n0 n1 M (zIl is, zL0, zRl ps, n) pc lv (.int x :: st) Q := by
  subst hm
  exact zNewB hd hx hs (zIl_fr hi) hn hq kk
theorem yNewS {len : Nat} {x : Int32} (hd : decode (zmc M) pc = .ok (.newarray .short, 2)) (hx : x = nI len) (hs : zsh n = (23, len)) (hi : zFi is n) (hp : zFp ps n) (hn : n0 ≤ n ∧ n < n1) (hm : n + 1 = n2) (hq : q = pc + 2)
    (kk : zAW g l d n0 n1 M (zIl is, zL0, zRl ps, n2) q lv (.ref n :: st) Q) : zAW g l d n0 n1 M (zIl is, zL0, zRl ps, n) pc lv (.int x :: st) Q := by
  subst hm
  exact zNewSh hd hx hs (zIl_fr hi) hn hq kk
theorem yNewQ {idx len : Nat} {x : Int32} (hd : decode (zmc M) pc = .ok (.anewarray idx, 3)) (hcl : Cond.classLink (zmo M) idx RX8 ∈ zWT) (hx : x = nI len) (hs : zsh n = (25, len)) (hi : zFi is n) (hp : zFp ps n) (hn : n0 ≤ n ∧ n < n1) (hm : n + 1 = n2) (hq : q = pc + 3)
    (kk : zAW g l d n0 n1 M (zIl is, zL0, zRl ps, n2) q lv (.ref n :: st) Q) : zAW g l d n0 n1 M (zIl is, zL0, zRl ps, n) pc lv (.int x :: st) Q := by
  subst hm
  exact zNewQ hd hcl hx hs (zRl_fr hp) hn hq kk
theorem yMulti {idx : Nat} {x y : Int32} {M : zM} (hd : decode (zmc M) pc = .ok (.multianewarray idx 2, 4)) (hcl : Cond.classLink (zmo M) idx "[[I" ∈ zWT) (hi : zFi is 2) (hp : zFp ps 2) (hx : x = nI 12) (hy : y = nI 10) (hn : n0 ≤ 2 ∧ 2 + 13 ≤ n1) (hq : q = pc + 4)
    (kk : zAW g l d n0 n1 M (zIl is, zL0, zRl ((2, 11, 14) :: (2, 10, 13) :: (2, 9, 12) :: (2, 8, 11) :: (2, 7, 10) :: (2, 6, 9) :: (2, 5, 8) :: (2, 4, 7) :: (2, 3, 6) :: (2, 2, 5) :: (2, 1, 4) :: (2, 0, 3) :: ps), 15) q lv (.ref 2 :: st) Q) : zAW g l d n0 n1 M (zIl is, zL0, zRl ps, 2) pc lv (.int y :: .int x :: st) Q := by
  refine zMulti hd hcl sh_2 (fun j hj => ?_) hx hy (fun j hj k => zIl_fr (zFi_mono (by omega) hi) k) hn hq (by rw [zMw_12 hp]; exact kk)
  match j, hj with
  | 0, _ => exact sh_3
  | 1, _ => exact sh_4
  | 2, _ => exact sh_5
  | 3, _ => exact sh_6
  | 4, _ => exact sh_7
  | 5, _ => exact sh_8
  | 6, _ => exact sh_9
  | 7, _ => exact sh_10
  | 8, _ => exact sh_11
  | 9, _ => exact sh_12
  | 10, _ => exact sh_13
  | 11, _ => exact sh_14
theorem yPutF {idx kd len a k b : Nat} (hd : decode (zmc M) pc = .ok (.putfield idx, 3)) (hf : zFL (zmo M) idx kd k true) (hfin : (zcT kd k).2.2.2 = true) (hin : (zmy M).name = "<init>") (how : zmo M = zcR kd) (hnr : ∀ b : Nat, narrow (zcY kd k) (.ref b) = .ref b) (hfit : ∀ b : Nat, fits (zcY kd k) (.ref b) = true) (hs : zsh a = (kd, len)) (ha : a < n) (hq : q = pc + 3)
    (kk : zAW g l d n0 n1 M (zIl is, L, zRl ((a, k, b) :: ps), n) q lv st Q) : zAW g l d n0 n1 M (zIl is, L, zRl ps, n) pc lv (.ref b :: .ref a :: st) Q :=
  zPutF hd hf hfin hin how hnr hfit hs ha hq (by rw [zRl_up]; exact kk)
theorem yPutR {idx kd len a k b : Nat} (hd : decode (zmc M) pc = .ok (.putfield idx, 3)) (hf : zFL (zmo M) idx kd k true) (hfin : (zcT kd k).2.2.2 = false) (hnr : ∀ b : Nat, narrow (zcY kd k) (.ref b) = .ref b) (hfit : ∀ b : Nat, fits (zcY kd k) (.ref b) = true) (hn2 : narrow (zcY kd k) .null = .null) (hfit2 : fits (zcY kd k) .null = true) (hs : zsh a = (kd, len)) (ha : a < n) (hq : q = pc + 3)
    (kk : zAW g l d n0 n1 M (zIl is, L, zRl ((a, k, b) :: ps), n) q lv st Q) : zAW g l d n0 n1 M (zIl is, L, zRl ps, n) pc lv (.ref b :: .ref a :: st) Q :=
  zPutR (x := some b) hd hf hfin rfl hnr hfit hn2 hfit2 hs ha hq (by rw [zRl_up]; exact kk)
theorem yPutI {idx kd len a k : Nat} {x : Int32} (hd : decode (zmc M) pc = .ok (.putfield idx, 3)) (hf : zFL (zmo M) idx kd k false) (hfin : (zcT kd k).2.2.2 = false) (hnr : narrow (zcY kd k) (.int x) = .int x) (hfit : fits (zcY kd k) (.int x) = true) (hs : zsh a = (kd, len)) (ha : a < n) (hq : q = pc + 3)
    (kk : zAW g l d n0 n1 M (zIl ((a, k, x) :: is), L, zRl ps, n) q lv st Q) : zAW g l d n0 n1 M (zIl is, L, zRl ps, n) pc lv (.int x :: .ref a :: st) Q :=
  zPutI hd hf hfin hnr hfit hs ha hq (by rw [zIl_up]; exact kk)
theorem yIast {len a j : Nat} {i x : Int32} (hd : decode (zmc M) pc = .ok (.iastore, 1)) (hs : zsh a = (20, len)) (ha : a < n) (hi : i = nI j) (hj : j < len) (hq : q = pc + 1)
    (kk : zAW g l d n0 n1 M (zIl ((a, j, x) :: is), L, zRl ps, n) q lv st Q) : zAW g l d n0 n1 M (zIl is, L, zRl ps, n) pc lv (.int x :: .int i :: .ref a :: st) Q :=
  zIast hd hs ha hi hj hq (by rw [zIl_up]; exact kk)
theorem yAst {len a b j len2 : Nat} {i : Int32} (hd : decode (zmc M) pc = .ok (.aastore, 1)) (hs : zsh a = (25, len)) (ha : a < n) (hb : b < n) (hsb : zsh b = (8, len2)) (hi : i = nI j) (hj : j < len) (hq : q = pc + 1)
    (kk : zAW g l d n0 n1 M (zIl is, L, zRl ((a, j, b) :: ps), n) q lv st Q) : zAW g l d n0 n1 M (zIl is, L, zRl ps, n) pc lv (.ref b :: .int i :: .ref a :: st) Q :=
  zAst hd hs ha hb hsb hi hj hq (by rw [zRl_up]; exact kk)
theorem yCallI {M' : zM} {idx d' n3 a ar : Nat} {w w2 : zW} {As rest : List Value} (hd : decode (zmc M) pc = .ok (.invokespecial idx, 3)) (hl0 : Cond.methodLink (zmo M) idx (zmy M') ∈ zWT) (hk : zMk M' ar) (hi : Cond.instanceMethod (zmy M') ∈ zWT) (hin : (zmy M').name = "<init>") (hret : zmr M' = none)
    (hS : zSp g l d' n3 M' (.ref a :: As) w (zV (fun w => w = w2))) (hst : st = As.reverse ++ .ref a :: rest) (har : As.length = ar) (hcat : (rest.map fun v => v.category).sum ≤ 8) (hml : zmn M' ≤ 45) (hd' : d' + 1 ≤ d) (hn : zNs n0 w.2.2.2 n3 n1) (hq : q = pc + 3)
    (kk : zAW g l d n0 n1 M w2 q lv rest Q) : zAW g l d n0 n1 M w pc lv st Q :=
  zCallI (I := w.1) (L := w.2.1) (R := w.2.2.1) (n := w.2.2.2) hd hl0 hk hi hin hret hS hst har hcat hml hd' hn hq (fun v w' _ h => by obtain ⟨rfl, rfl⟩ := h; exact kk)
theorem yCallN {M' : zM} {idx d' n3 a ar : Nat} {w w2 : zW} {As rest : List Value} (hd : decode (zmc M) pc = .ok (.invokespecial idx, 3)) (how : zmo M = RX11) (hl0 : (idx, zmy M') ∈ zNW) (hk : zMk M' ar) (hi : Cond.instanceMethod (zmy M') ∈ zWT) (hin : (zmy M').name = "<init>") (hret : zmr M' = none)
    (hS : zSp g l d' n3 M' (.ref a :: As) w (zV (fun w => w = w2))) (hst : st = As.reverse ++ .ref a :: rest) (har : As.length = ar) (hcat : (rest.map fun v => v.category).sum ≤ 8) (hml : zmn M' ≤ 45) (hd' : d' + 1 ≤ d) (hn : zNs n0 w.2.2.2 n3 n1) (hq : q = pc + 3)
    (kk : zAW g l d n0 n1 M w2 q lv rest Q) : zAW g l d n0 n1 M w pc lv st Q :=
  zCallN (I := w.1) (L := w.2.1) (R := w.2.2.1) (n := w.2.2.2) hd how hl0 hk hi hin hret hS hst har hcat hml hd' hn hq (fun v w' _ h => by obtain ⟨rfl, rfl⟩ := h; exact kk)
end S97
