theorem d_X6_clear_0 : decode (zmc m_X6_clear) 0 = .ok (.aload_n 0, 1) := by decide +kernel
theorem d_X6_clear_1 : decode (zmc m_X6_clear) 1 = .ok (.iconst 0, 1) := by decide +kernel
theorem d_X6_clear_2 : decode (zmc m_X6_clear) 2 = .ok (.putfield 22, 3) := by decide +kernel
theorem d_X6_clear_5 : decode (zmc m_X6_clear) 5 = .ok (.return_, 1) := by decide +kernel
theorem d_X6_joined_0 : decode (zmc m_X6_joined) 0 = .ok (.iload_n 0, 1) := by decide +kernel
theorem d_X6_joined_1 : decode (zmc m_X6_joined) 1 = .ok (.lookupswitch 203 #[(37, 191), (38, 108), (42, 175), (43, 167), (45, 171), (47, 179), (60, 125), (61, 139), (62, 153), (124, 91)], 91) := by decide +kernel
theorem d_X6_joined_92 : decode (zmc m_X6_joined) 92 = .ok (.iload_n 1, 1) := by decide +kernel
theorem d_X6_joined_93 : decode (zmc m_X6_joined) 93 = .ok (.ifCond .ne 7, 3) := by decide +kernel
theorem d_X6_joined_96 : decode (zmc m_X6_joined) 96 = .ok (.iload_n 2, 1) := by decide +kernel
theorem d_X6_joined_97 : decode (zmc m_X6_joined) 97 = .ok (.ifCond .eq 7, 3) := by decide +kernel
theorem d_X6_joined_100 : decode (zmc m_X6_joined) 100 = .ok (.iconst 1, 1) := by decide +kernel
theorem d_X6_joined_101 : decode (zmc m_X6_joined) 101 = .ok (.goto 4, 3) := by decide +kernel
theorem d_X6_joined_104 : decode (zmc m_X6_joined) 104 = .ok (.iconst 0, 1) := by decide +kernel
theorem d_X6_joined_105 : decode (zmc m_X6_joined) 105 = .ok (.invokestatic 51, 3) := by decide +kernel
theorem d_X6_joined_108 : decode (zmc m_X6_joined) 108 = .ok (.ireturn, 1) := by decide +kernel
theorem d_X6_joined_109 : decode (zmc m_X6_joined) 109 = .ok (.iload_n 1, 1) := by decide +kernel
theorem d_X6_joined_110 : decode (zmc m_X6_joined) 110 = .ok (.ifCond .eq 11, 3) := by decide +kernel
theorem d_X6_joined_113 : decode (zmc m_X6_joined) 113 = .ok (.iload_n 2, 1) := by decide +kernel
theorem d_X6_joined_114 : decode (zmc m_X6_joined) 114 = .ok (.ifCond .eq 7, 3) := by decide +kernel
theorem d_X6_joined_117 : decode (zmc m_X6_joined) 117 = .ok (.iconst 1, 1) := by decide +kernel
theorem d_X6_joined_118 : decode (zmc m_X6_joined) 118 = .ok (.goto 4, 3) := by decide +kernel
theorem d_X6_joined_121 : decode (zmc m_X6_joined) 121 = .ok (.iconst 0, 1) := by decide +kernel
theorem d_X6_joined_122 : decode (zmc m_X6_joined) 122 = .ok (.invokestatic 51, 3) := by decide +kernel
theorem d_X6_joined_125 : decode (zmc m_X6_joined) 125 = .ok (.ireturn, 1) := by decide +kernel
theorem d_X6_joined_126 : decode (zmc m_X6_joined) 126 = .ok (.iload_n 1, 1) := by decide +kernel
theorem d_X6_joined_127 : decode (zmc m_X6_joined) 127 = .ok (.iload_n 2, 1) := by decide +kernel
theorem d_X6_joined_128 : decode (zmc m_X6_joined) 128 = .ok (.if_icmp .ge 7, 3) := by decide +kernel
theorem d_X6_joined_131 : decode (zmc m_X6_joined) 131 = .ok (.iconst 1, 1) := by decide +kernel
theorem d_X6_joined_132 : decode (zmc m_X6_joined) 132 = .ok (.goto 4, 3) := by decide +kernel
theorem d_X6_joined_135 : decode (zmc m_X6_joined) 135 = .ok (.iconst 0, 1) := by decide +kernel
theorem d_X6_joined_136 : decode (zmc m_X6_joined) 136 = .ok (.invokestatic 51, 3) := by decide +kernel
theorem d_X6_joined_139 : decode (zmc m_X6_joined) 139 = .ok (.ireturn, 1) := by decide +kernel
theorem d_X6_joined_140 : decode (zmc m_X6_joined) 140 = .ok (.iload_n 1, 1) := by decide +kernel
theorem d_X6_joined_141 : decode (zmc m_X6_joined) 141 = .ok (.iload_n 2, 1) := by decide +kernel
theorem d_X6_joined_142 : decode (zmc m_X6_joined) 142 = .ok (.if_icmp .ne 7, 3) := by decide +kernel
theorem d_X6_joined_145 : decode (zmc m_X6_joined) 145 = .ok (.iconst 1, 1) := by decide +kernel
theorem d_X6_joined_146 : decode (zmc m_X6_joined) 146 = .ok (.goto 4, 3) := by decide +kernel
theorem d_X6_joined_149 : decode (zmc m_X6_joined) 149 = .ok (.iconst 0, 1) := by decide +kernel
theorem d_X6_joined_150 : decode (zmc m_X6_joined) 150 = .ok (.invokestatic 51, 3) := by decide +kernel
theorem d_X6_joined_153 : decode (zmc m_X6_joined) 153 = .ok (.ireturn, 1) := by decide +kernel
theorem d_X6_joined_154 : decode (zmc m_X6_joined) 154 = .ok (.iload_n 1, 1) := by decide +kernel
theorem d_X6_joined_155 : decode (zmc m_X6_joined) 155 = .ok (.iload_n 2, 1) := by decide +kernel
theorem d_X6_joined_156 : decode (zmc m_X6_joined) 156 = .ok (.if_icmp .le 7, 3) := by decide +kernel
theorem d_X6_joined_159 : decode (zmc m_X6_joined) 159 = .ok (.iconst 1, 1) := by decide +kernel
theorem d_X6_joined_160 : decode (zmc m_X6_joined) 160 = .ok (.goto 4, 3) := by decide +kernel
theorem d_X6_joined_163 : decode (zmc m_X6_joined) 163 = .ok (.iconst 0, 1) := by decide +kernel
theorem d_X6_joined_164 : decode (zmc m_X6_joined) 164 = .ok (.invokestatic 51, 3) := by decide +kernel
theorem d_X6_joined_167 : decode (zmc m_X6_joined) 167 = .ok (.ireturn, 1) := by decide +kernel
theorem d_X6_joined_168 : decode (zmc m_X6_joined) 168 = .ok (.iload_n 1, 1) := by decide +kernel
theorem d_X6_joined_169 : decode (zmc m_X6_joined) 169 = .ok (.iload_n 2, 1) := by decide +kernel
theorem d_X6_joined_170 : decode (zmc m_X6_joined) 170 = .ok (.iadd, 1) := by decide +kernel
theorem d_X6_joined_171 : decode (zmc m_X6_joined) 171 = .ok (.ireturn, 1) := by decide +kernel
theorem d_X6_joined_172 : decode (zmc m_X6_joined) 172 = .ok (.iload_n 1, 1) := by decide +kernel
theorem d_X6_joined_173 : decode (zmc m_X6_joined) 173 = .ok (.iload_n 2, 1) := by decide +kernel
theorem d_X6_joined_174 : decode (zmc m_X6_joined) 174 = .ok (.isub, 1) := by decide +kernel
theorem d_X6_joined_175 : decode (zmc m_X6_joined) 175 = .ok (.ireturn, 1) := by decide +kernel
theorem d_X6_joined_176 : decode (zmc m_X6_joined) 176 = .ok (.iload_n 1, 1) := by decide +kernel
theorem d_X6_joined_177 : decode (zmc m_X6_joined) 177 = .ok (.iload_n 2, 1) := by decide +kernel
theorem d_X6_joined_178 : decode (zmc m_X6_joined) 178 = .ok (.imul, 1) := by decide +kernel
theorem d_X6_joined_179 : decode (zmc m_X6_joined) 179 = .ok (.ireturn, 1) := by decide +kernel
theorem d_X6_joined_180 : decode (zmc m_X6_joined) 180 = .ok (.iload_n 2, 1) := by decide +kernel
theorem d_X6_joined_181 : decode (zmc m_X6_joined) 181 = .ok (.ifCond .ne 7, 3) := by decide +kernel
theorem d_X6_joined_184 : decode (zmc m_X6_joined) 184 = .ok (.iconst 0, 1) := by decide +kernel
theorem d_X6_joined_185 : decode (zmc m_X6_joined) 185 = .ok (.goto 6, 3) := by decide +kernel
theorem d_X6_joined_188 : decode (zmc m_X6_joined) 188 = .ok (.iload_n 1, 1) := by decide +kernel
theorem d_X6_joined_189 : decode (zmc m_X6_joined) 189 = .ok (.iload_n 2, 1) := by decide +kernel
theorem d_X6_joined_190 : decode (zmc m_X6_joined) 190 = .ok (.idiv, 1) := by decide +kernel
theorem d_X6_joined_191 : decode (zmc m_X6_joined) 191 = .ok (.ireturn, 1) := by decide +kernel
theorem d_X6_joined_192 : decode (zmc m_X6_joined) 192 = .ok (.iload_n 2, 1) := by decide +kernel
theorem d_X6_joined_193 : decode (zmc m_X6_joined) 193 = .ok (.ifCond .ne 7, 3) := by decide +kernel
theorem d_X6_joined_196 : decode (zmc m_X6_joined) 196 = .ok (.iconst 0, 1) := by decide +kernel
theorem d_X6_joined_197 : decode (zmc m_X6_joined) 197 = .ok (.goto 6, 3) := by decide +kernel
theorem d_X6_joined_200 : decode (zmc m_X6_joined) 200 = .ok (.iload_n 1, 1) := by decide +kernel
theorem d_X6_joined_201 : decode (zmc m_X6_joined) 201 = .ok (.iload_n 2, 1) := by decide +kernel
theorem d_X6_joined_202 : decode (zmc m_X6_joined) 202 = .ok (.irem, 1) := by decide +kernel
theorem d_X6_joined_203 : decode (zmc m_X6_joined) 203 = .ok (.ireturn, 1) := by decide +kernel
theorem d_X6_joined_204 : decode (zmc m_X6_joined) 204 = .ok (.iconst 0, 1) := by decide +kernel
theorem d_X6_joined_205 : decode (zmc m_X6_joined) 205 = .ok (.ireturn, 1) := by decide +kernel
theorem d_X6_named_0 : decode (zmc m_X6_named) 0 = .ok (.iload_n 1, 1) := by decide +kernel
theorem d_X6_named_1 : decode (zmc m_X6_named) 1 = .ok (.ifCond .lt 18, 3) := by decide +kernel
theorem d_X6_named_4 : decode (zmc m_X6_named) 4 = .ok (.iload_n 1, 1) := by decide +kernel
theorem d_X6_named_5 : decode (zmc m_X6_named) 5 = .ok (.bipush 6, 2) := by decide +kernel
theorem d_X6_named_7 : decode (zmc m_X6_named) 7 = .ok (.if_icmp .ge 12, 3) := by decide +kernel
theorem d_X6_named_10 : decode (zmc m_X6_named) 10 = .ok (.aload_n 0, 1) := by decide +kernel
theorem d_X6_named_11 : decode (zmc m_X6_named) 11 = .ok (.getfield 19, 3) := by decide +kernel
theorem d_X6_named_14 : decode (zmc m_X6_named) 14 = .ok (.iload_n 1, 1) := by decide +kernel
theorem d_X6_named_15 : decode (zmc m_X6_named) 15 = .ok (.iaload, 1) := by decide +kernel
theorem d_X6_named_16 : decode (zmc m_X6_named) 16 = .ok (.goto 4, 3) := by decide +kernel
theorem d_X6_named_19 : decode (zmc m_X6_named) 19 = .ok (.iconst 0, 1) := by decide +kernel
theorem d_X6_named_20 : decode (zmc m_X6_named) 20 = .ok (.ireturn, 1) := by decide +kernel
theorem d_X6_truth_0 : decode (zmc m_X6_truth) 0 = .ok (.iload_n 0, 1) := by decide +kernel
theorem d_X6_truth_1 : decode (zmc m_X6_truth) 1 = .ok (.ifCond .eq 7, 3) := by decide +kernel
theorem d_X6_truth_4 : decode (zmc m_X6_truth) 4 = .ok (.iconst 1, 1) := by decide +kernel
theorem d_X6_truth_5 : decode (zmc m_X6_truth) 5 = .ok (.goto 4, 3) := by decide +kernel
theorem d_X6_truth_8 : decode (zmc m_X6_truth) 8 = .ok (.iconst 0, 1) := by decide +kernel
theorem d_X6_truth_9 : decode (zmc m_X6_truth) 9 = .ok (.ireturn, 1) := by decide +kernel
theorem d_X6_withoutText_0 : decode (zmc m_X6_withoutText) 0 = .ok (.bipush 6, 2) := by decide +kernel
theorem d_X6_withoutText_2 : decode (zmc m_X6_withoutText) 2 = .ok (.aload_n 0, 1) := by decide +kernel
theorem d_X6_withoutText_3 : decode (zmc m_X6_withoutText) 3 = .ok (.getfield 19, 3) := by decide +kernel
theorem d_X6_withoutText_6 : decode (zmc m_X6_withoutText) 6 = .ok (.iconst 0, 1) := by decide +kernel
theorem d_X6_withoutText_7 : decode (zmc m_X6_withoutText) 7 = .ok (.iaload, 1) := by decide +kernel
theorem d_X6_withoutText_8 : decode (zmc m_X6_withoutText) 8 = .ok (.iconst 2, 1) := by decide +kernel
theorem d_X6_withoutText_9 : decode (zmc m_X6_withoutText) 9 = .ok (.idiv, 1) := by decide +kernel
theorem d_X6_withoutText_10 : decode (zmc m_X6_withoutText) 10 = .ok (.iadd, 1) := by decide +kernel
theorem d_X6_withoutText_11 : decode (zmc m_X6_withoutText) 11 = .ok (.aload_n 0, 1) := by decide +kernel
theorem d_X6_withoutText_12 : decode (zmc m_X6_withoutText) 12 = .ok (.getfield 19, 3) := by decide +kernel
theorem d_X6_withoutText_15 : decode (zmc m_X6_withoutText) 15 = .ok (.iconst 1, 1) := by decide +kernel
theorem d_X6_withoutText_16 : decode (zmc m_X6_withoutText) 16 = .ok (.iaload, 1) := by decide +kernel
theorem d_X6_withoutText_17 : decode (zmc m_X6_withoutText) 17 = .ok (.iconst 3, 1) := by decide +kernel
theorem d_X6_withoutText_18 : decode (zmc m_X6_withoutText) 18 = .ok (.idiv, 1) := by decide +kernel
theorem d_X6_withoutText_19 : decode (zmc m_X6_withoutText) 19 = .ok (.iadd, 1) := by decide +kernel
theorem d_X6_withoutText_20 : decode (zmc m_X6_withoutText) 20 = .ok (.aload_n 0, 1) := by decide +kernel
theorem d_X6_withoutText_21 : decode (zmc m_X6_withoutText) 21 = .ok (.getfield 19, 3) := by decide +kernel
theorem d_X6_withoutText_24 : decode (zmc m_X6_withoutText) 24 = .ok (.iconst 2, 1) := by decide +kernel
theorem d_X6_withoutText_25 : decode (zmc m_X6_withoutText) 25 = .ok (.iaload, 1) := by decide +kernel
theorem d_X6_withoutText_26 : decode (zmc m_X6_withoutText) 26 = .ok (.iconst 3, 1) := by decide +kernel
theorem d_X6_withoutText_27 : decode (zmc m_X6_withoutText) 27 = .ok (.idiv, 1) := by decide +kernel
theorem d_X6_withoutText_28 : decode (zmc m_X6_withoutText) 28 = .ok (.isub, 1) := by decide +kernel
theorem d_X6_withoutText_29 : decode (zmc m_X6_withoutText) 29 = .ok (.aload_n 0, 1) := by decide +kernel
theorem d_X6_withoutText_30 : decode (zmc m_X6_withoutText) 30 = .ok (.getfield 19, 3) := by decide +kernel
theorem d_X6_withoutText_33 : decode (zmc m_X6_withoutText) 33 = .ok (.iconst 3, 1) := by decide +kernel
theorem d_X6_withoutText_34 : decode (zmc m_X6_withoutText) 34 = .ok (.iaload, 1) := by decide +kernel
theorem d_X6_withoutText_35 : decode (zmc m_X6_withoutText) 35 = .ok (.iconst 2, 1) := by decide +kernel
theorem d_X6_withoutText_36 : decode (zmc m_X6_withoutText) 36 = .ok (.idiv, 1) := by decide +kernel
theorem d_X6_withoutText_37 : decode (zmc m_X6_withoutText) 37 = .ok (.isub, 1) := by decide +kernel
theorem d_X6_withoutText_38 : decode (zmc m_X6_withoutText) 38 = .ok (.ireturn, 1) := by decide +kernel
/-! A LAW -/
def zLwf (h : Nat) : Prop := zsh h = (6, 5) ∧ zsh (h + 1) = (20, 128) ∧ zsh (h + 2) = (20, 128) ∧ zsh (h + 3) = (20, 128) ∧ zsh (h + 4) = (20, 6) ∧ h + 4 < 100 ∧ 42 ≤ h ∧ ∀ fs, zR fs h 0 = some (h + 1) ∧ zR fs h 1 = some (h + 2) ∧ zR fs h 2 = some (h + 3) ∧ zR fs h 3 = some (h + 4)
theorem zlw54 : zLwf 54 := ⟨rfl, rfl, rfl, rfl, rfl, by decide, by decide, fun _ => ⟨rfl, rfl, rfl, rfl⟩⟩
theorem zlw59 : zLwf 59 := ⟨rfl, rfl, rfl, rfl, rfl, by decide, by decide, fun _ => ⟨rfl, rfl, rfl, rfl⟩⟩
theorem zlt4 {h : Nat} (hw : zLwf h) : h < 100 := by have := hw.2.2.2.2.2.1; omega
theorem zlt1 {h : Nat} (hw : zLwf h) : h + 1 < 100 := by have := hw.2.2.2.2.2.1; omega
theorem zlt2 {h : Nat} (hw : zLwf h) : h + 2 < 100 := by have := hw.2.2.2.2.2.1; omega
theorem zlt3 {h : Nat} (hw : zLwf h) : h + 3 < 100 := by have := hw.2.2.2.2.2.1; omega
theorem zlw0 {h : Nat} {fs : Nat × Nat × Option Nat} (hw : zLwf h) : zR fs h 0 = some (h + 1) := (hw.2.2.2.2.2.2.2 fs).1
theorem zlw1 {h : Nat} {fs : Nat × Nat × Option Nat} (hw : zLwf h) : zR fs h 1 = some (h + 2) := (hw.2.2.2.2.2.2.2 fs).2.1
theorem zlw2 {h : Nat} {fs : Nat × Nat × Option Nat} (hw : zLwf h) : zR fs h 2 = some (h + 3) := (hw.2.2.2.2.2.2.2 fs).2.2.1
theorem zlw3 {h : Nat} {fs : Nat × Nat × Option Nat} (hw : zLwf h) : zR fs h 3 = some (h + 4) := (hw.2.2.2.2.2.2.2 fs).2.2.2
/-- a text worked out: a step is a sign (0 a number, 1 a name, 4 no, 5 less, else a joining byte) and its worth -/
abbrev zSt1 : Type := Int32 × Int32
abbrev zLine : Type := Option (List zSt1) × List zSt1
def zJn (t x y : Int32) : Int32 :=
  if t = 37 then (if y = 0 then 0 else x - x / y * y) else if t = 38 then bi (¬ x = 0 ∧ ¬ y = 0) else if t = 42 then x * y else if t = 43 then x + y else if t = 45 then x - y
  else if t = 47 then (if y = 0 then 0 else x / y) else if t = 60 then bi (x < y) else if t = 61 then bi (x = y) else if t = 62 then bi (y < x) else if t = 124 then bi (¬ x = 0 ∨ ¬ y = 0) else 0
def zStp (env : Nat → Int32) (c : zSt1) : List Int32 → List Int32
  | [] => if c.1 = 0 then [c.2] else if c.1 = 1 then [env c.2.toNatClampNeg] else []
  | [x] => if c.1 = 0 then [c.2, x] else if c.1 = 1 then [env c.2.toNatClampNeg, x] else if c.1 = 4 then [if x = 0 then 1 else 0] else if c.1 = 5 then [-x] else [x]
  | y :: x :: r => if c.1 = 0 then c.2 :: y :: x :: r else if c.1 = 1 then env c.2.toNatClampNeg :: y :: x :: r else if c.1 = 4 then (if y = 0 then 1 else 0) :: x :: r else if c.1 = 5 then -y :: x :: r else zJn c.1 x y :: r
def zRunS (env : Nat → Int32) : List zSt1 → List Int32 → List Int32
  | [], s => s
  | c :: r, s => zRunS env r (zStp env c s)
/-- the steps can be gone through from a height on, and leave a height -/
def zWfS : List zSt1 → Nat → Nat → Prop
  | [], a, b => a = b
  | c :: r, a, b => (c.1 = 0 ∧ zWfS r (a + 1) b) ∨ (c.1 = 1 ∧ (∃ k : Nat, k < 6 ∧ c.2 = nI k) ∧ zWfS r (a + 1) b) ∨ ((c.1 = 4 ∨ c.1 = 5) ∧ 1 ≤ a ∧ zWfS r a b) ∨ (c.1 ∈ ([37, 38, 42, 43, 45, 47, 60, 61, 62, 124] : List Int32) ∧ 2 ≤ a ∧ zWfS r (a - 1) b)
def zHd (s : List Int32) : Int32 := s.headD 0
def zEvL (env : Nat → Int32) : List zLine → Int32
  | [] => 0
  | (none, v) :: _ => zHd (zRunS env v [])
  | (some t, v) :: r => if zHd (zRunS env t []) = 0 then zEvL env r else zHd (zRunS env v [])
def zCdL (p : Nat) : zLine → List zSt1
  | (none, v) => v ++ [(3, 0)]
  | (some t, v) => t ++ (2, nI (p + (t.length + 1 + (v.length + 1)))) :: (v ++ [(3, 0)])
def zCd : Nat → List zLine → List zSt1
  | _, [] => []
  | p, x :: r => zCdL p x ++ zCd (p + (zCdL p x).length) r
def zWfL (x : zLine) : Prop := zWfS x.2 0 1 ∧ ∀ t, x.1 = some t → zWfS t 0 1
/-- the signs lie from p on -/
def zLy (S W : Nat → Int32) (p : Nat) (c : List zSt1) : Prop := ∀ (i : Nat) (x : zSt1), c[i]? = some x → S (p + i) = x.1 ∧ W (p + i) = x.2
theorem zLy_app {S W : Nat → Int32} {p : Nat} {a b : List zSt1} (h : zLy S W p (a ++ b)) : zLy S W p a ∧ zLy S W (p + a.length) b := by
  refine ⟨fun i x hx => h i x ?_, fun i x hx => ?_⟩
  · have hi : i < a.length := (List.getElem?_eq_some_iff.mp hx).1
    rw [List.getElem?_append_left hi]; exact hx
  · have := h (a.length + i) x (by rw [List.getElem?_append_right (Nat.le_add_right _ _), Nat.add_sub_cancel_left]; exact hx)
    rw [Nat.add_assoc]; exact this
theorem zLy_cons {S W : Nat → Int32} {p : Nat} {a : zSt1} {b : List zSt1} (h : zLy S W p (a :: b)) : (S p = a.1 ∧ W p = a.2) ∧ zLy S W (p + 1) b := by
  refine ⟨h 0 a rfl, fun i x hx => ?_⟩
  have := h (i + 1) x hx
  rw [show p + 1 + i = p + (i + 1) by omega]; exact this
/-- the stack lies in a row, the top behind -/
def zStk (F : Nat → Int32) : List Int32 → Prop
  | [] => True
  | x :: r => F r.length = x ∧ zStk F r
theorem zStk_up {F : Nat → Int32} {s : List Int32} {k : Nat} {x : Int32} (h : zStk F s) (hk : s.length ≤ k) : zStk (zup F k x) s := by
  induction s with
  | nil => trivial
  | cons y r ih =>
    have hl : (y :: r).length = r.length + 1 := rfl
    exact ⟨by rw [zup_ne (by omega)]; exact h.1, ih h.2 (by omega)⟩
section S19
variable {g : zG} {l : Launch} {d : Nat} {I : Nat → Nat → Int32} {L : Nat → Nat → Int64} {fs : Nat × Nat × Option Nat} {ns nt nh h : Nat}
theorem sp_X6_clear (hd : 1 ≤ d) (hw : zLwf h) : zSp g l d 100 m_X6_clear [.ref h] (zU I L fs) (zV (fun w => w = zU (zup I h (zup (I h) 4 0)) L fs)) := by
  refine zSp_of (lv := [(0, .ref h)]) k_X6_clear rfl (Nat.le_of_ble_eq_true rfl) ?_
  refine zAloadN d_X6_clear_0 rfl rfl (q := 1) rfl ?_
  refine zIconst d_X6_clear_1 (v := 0) ic_0 (q := 2) rfl ?_
  refine zPutI d_X6_clear_2 ff_X6_22 rfl rfl rfl hw.1 (zlt4 hw) (q := 5) rfl ?_
  refine zVret d_X6_clear_5 rfl rfl ?_
  exact ⟨rfl, rfl⟩
theorem sp_X6_named (hd : 1 ≤ d) (hw : zLwf h) {k : Nat} (hk : k < 6) : zPure g l d m_X6_named [.ref h, .int (nI k)] I L fs (.int (I (h + 4) k)) := by
  refine zSp_of (lv := [(0, .ref h), (1, .int (nI k))]) k_X6_named rfl (Nat.le_of_ble_eq_true rfl) ?_
  refine zIloadN d_X6_named_0 rfl rfl (q := 1) rfl ?_
  refine zIf_lt d_X6_named_1 (tgt := 19) (q := 4) (by decide) rfl (fun h => absurd h (nI_pos (by omega))) (fun h1 => ?_)
  refine zIloadN d_X6_named_4 rfl rfl (q := 5) rfl ?_
  refine zBipush d_X6_named_5 (v := 6) bc_6 (q := 7) rfl ?_
  refine zIcmp_ge d_X6_named_7 (tgt := 19) (q := 10) (by decide) rfl (fun h => absurd h (nI_ge (b := 6) hk (by omega))) (fun h7 => ?_)
  refine zAloadN d_X6_named_10 rfl rfl (q := 11) rfl ?_
  refine zGetR d_X6_named_11 ff_X6_19 hw.1 (zlt4 hw) (zlw3 hw) (q := 14) rfl ?_
  refine zIloadN d_X6_named_14 rfl rfl (q := 15) rfl ?_
  refine zIald d_X6_named_15 hw.2.2.2.2.1 hw.2.2.2.2.2.1 rfl hk (q := 16) rfl ?_
  refine zGoto d_X6_named_16 (q := 20) (by decide) ?_
  refine zIret d_X6_named_20 rfl rfl rfl ?_
  exact zPi rfl
theorem sp_X6_truth (hd : 1 ≤ d) {c : Prop} [Decidable c] : zPure g l d m_X6_truth [.int (bi c)] I L fs (.int (bi c)) := by
  refine zSp_of (lv := [(0, .int (bi c))]) k_X6_truth rfl (Nat.le_of_ble_eq_true rfl) ?_
  refine zIloadN d_X6_truth_0 rfl rfl (q := 1) rfl ?_
  refine zIf_eq d_X6_truth_1 (tgt := 8) (q := 4) (by decide) rfl (fun h1 => ?_) (fun h1 => ?_)
  · refine zIconst d_X6_truth_8 (v := 0) ic_0 (q := 9) rfl ?_
    refine zIret d_X6_truth_9 rfl rfl rfl ?_
    exact zPi (by first | exact (bi_f (bi_0.mp h1)).symm | exact (bi_t (bi_n0.mp h1)).symm)
  · refine zIconst d_X6_truth_4 (v := 1) ic_1 (q := 5) rfl ?_
    refine zGoto d_X6_truth_5 (q := 9) (by decide) ?_
    refine zIret d_X6_truth_9 rfl rfl rfl ?_
    exact zPi (by first | exact (bi_f (bi_0.mp h1)).symm | exact (bi_t (bi_n0.mp h1)).symm)
theorem sp_truthC (hd : 1 ≤ d) {x : Int32} (hx : x = 0 ∨ x = 1) : zPure g l d m_X6_truth [.int x] I L fs (.int x) := by
  rcases hx with rfl | rfl
  · exact sp_X6_truth (c := False) hd
  · exact sp_X6_truth (c := True) hd
theorem sp_X6_joined (hd : 2 ≤ d) {t x y : Int32} : zPure g l d m_X6_joined [.int t, .int x, .int y] I L fs (.int (zJn t x y)) := by
  refine zSp_of (lv := [(0, .int t), (1, .int x), (2, .int y)]) k_X6_joined rfl (Nat.le_of_ble_eq_true rfl) ?_
  refine zIloadN d_X6_joined_0 rfl rfl (q := 1) rfl ?_
  rcases Decidable.em (t = (37 : Int32)) with s1_37 | s1_37
  · refine zLook d_X6_joined_1 (by decide) (off := 191) (by rw [s1_37]; decide) (q := 192) (by decide) ?_
    refine zIloadN d_X6_joined_192 rfl rfl (q := 193) rfl ?_
    refine zIf_ne d_X6_joined_193 (tgt := 200) (q := 196) (by decide) rfl (fun h193 => ?_) (fun h193 => ?_)
    · refine zIloadN d_X6_joined_200 rfl rfl (q := 201) rfl ?_
      refine zIloadN d_X6_joined_201 rfl rfl (q := 202) rfl ?_
      refine zIrem d_X6_joined_202 h193 (q := 203) rfl ?_
      refine zIret d_X6_joined_203 rfl rfl rfl ?_
      exact zPi (by unfold zJn bi; simp_all)
    · refine zIconst d_X6_joined_196 (v := 0) ic_0 (q := 197) rfl ?_
      refine zGoto d_X6_joined_197 (q := 203) (by decide) ?_
      refine zIret d_X6_joined_203 rfl rfl rfl ?_
      exact zPi (by unfold zJn bi; simp_all)
  rcases Decidable.em (t = (38 : Int32)) with s1_38 | s1_38
  · refine zLook d_X6_joined_1 (by decide) (off := 108) (by rw [s1_38]; decide) (q := 109) (by decide) ?_
    refine zIloadN d_X6_joined_109 rfl rfl (q := 110) rfl ?_
    refine zIf_eq d_X6_joined_110 (tgt := 121) (q := 113) (by decide) rfl (fun h110 => ?_) (fun h110 => ?_)
    · refine zIconst d_X6_joined_121 (v := 0) ic_0 (q := 122) rfl ?_
      refine zCallSP d_X6_joined_122 ml_X6_51 k_X6_truth kt_X6_truth (sp_truthC (d := d - 1) (by omega) (by decide)) rfl rfl (Nat.le_of_ble_eq_true rfl) (by decide) (by omega) zns100 (q := 125) rfl ?_
      refine zIret d_X6_joined_125 rfl rfl rfl ?_
      exact zPi (by unfold zJn bi; simp_all)
    · refine zIloadN d_X6_joined_113 rfl rfl (q := 114) rfl ?_
      refine zIf_eq d_X6_joined_114 (tgt := 121) (q := 117) (by decide) rfl (fun h114 => ?_) (fun h114 => ?_)
      · refine zIconst d_X6_joined_121 (v := 0) ic_0 (q := 122) rfl ?_
        refine zCallSP d_X6_joined_122 ml_X6_51 k_X6_truth kt_X6_truth (sp_truthC (d := d - 1) (by omega) (by decide)) rfl rfl (Nat.le_of_ble_eq_true rfl) (by decide) (by omega) zns100 (q := 125) rfl ?_
        refine zIret d_X6_joined_125 rfl rfl rfl ?_
        exact zPi (by unfold zJn bi; simp_all)
      · refine zIconst d_X6_joined_117 (v := 1) ic_1 (q := 118) rfl ?_
        refine zGoto d_X6_joined_118 (q := 122) (by decide) ?_
        refine zCallSP d_X6_joined_122 ml_X6_51 k_X6_truth kt_X6_truth (sp_truthC (d := d - 1) (by omega) (by decide)) rfl rfl (Nat.le_of_ble_eq_true rfl) (by decide) (by omega) zns100 (q := 125) rfl ?_
        refine zIret d_X6_joined_125 rfl rfl rfl ?_
        exact zPi (by unfold zJn bi; simp_all)
  rcases Decidable.em (t = (42 : Int32)) with s1_42 | s1_42
  · refine zLook d_X6_joined_1 (by decide) (off := 175) (by rw [s1_42]; decide) (q := 176) (by decide) ?_
    refine zIloadN d_X6_joined_176 rfl rfl (q := 177) rfl ?_
    refine zIloadN d_X6_joined_177 rfl rfl (q := 178) rfl ?_
    refine zImul d_X6_joined_178 (q := 179) rfl ?_
    refine zIret d_X6_joined_179 rfl rfl rfl ?_
    exact zPi (by unfold zJn bi; simp_all)
  rcases Decidable.em (t = (43 : Int32)) with s1_43 | s1_43
  · refine zLook d_X6_joined_1 (by decide) (off := 167) (by rw [s1_43]; decide) (q := 168) (by decide) ?_
    refine zIloadN d_X6_joined_168 rfl rfl (q := 169) rfl ?_
    refine zIloadN d_X6_joined_169 rfl rfl (q := 170) rfl ?_
    refine zIadd d_X6_joined_170 (q := 171) rfl ?_
    refine zIret d_X6_joined_171 rfl rfl rfl ?_
    exact zPi (by unfold zJn bi; simp_all)
  rcases Decidable.em (t = (45 : Int32)) with s1_45 | s1_45
  · refine zLook d_X6_joined_1 (by decide) (off := 171) (by rw [s1_45]; decide) (q := 172) (by decide) ?_
    refine zIloadN d_X6_joined_172 rfl rfl (q := 173) rfl ?_
    refine zIloadN d_X6_joined_173 rfl rfl (q := 174) rfl ?_
    refine zIsub d_X6_joined_174 (q := 175) rfl ?_
    refine zIret d_X6_joined_175 rfl rfl rfl ?_
    exact zPi (by unfold zJn bi; simp_all)
  rcases Decidable.em (t = (47 : Int32)) with s1_47 | s1_47
  · refine zLook d_X6_joined_1 (by decide) (off := 179) (by rw [s1_47]; decide) (q := 180) (by decide) ?_
    refine zIloadN d_X6_joined_180 rfl rfl (q := 181) rfl ?_
    refine zIf_ne d_X6_joined_181 (tgt := 188) (q := 184) (by decide) rfl (fun h181 => ?_) (fun h181 => ?_)
    · refine zIloadN d_X6_joined_188 rfl rfl (q := 189) rfl ?_
      refine zIloadN d_X6_joined_189 rfl rfl (q := 190) rfl ?_
      refine zIdiv d_X6_joined_190 h181 (q := 191) rfl ?_
      refine zIret d_X6_joined_191 rfl rfl rfl ?_
      exact zPi (by unfold zJn bi; simp_all)
    · refine zIconst d_X6_joined_184 (v := 0) ic_0 (q := 185) rfl ?_
      refine zGoto d_X6_joined_185 (q := 191) (by decide) ?_
      refine zIret d_X6_joined_191 rfl rfl rfl ?_
      exact zPi (by unfold zJn bi; simp_all)
  rcases Decidable.em (t = (60 : Int32)) with s1_60 | s1_60
  · refine zLook d_X6_joined_1 (by decide) (off := 125) (by rw [s1_60]; decide) (q := 126) (by decide) ?_
    refine zIloadN d_X6_joined_126 rfl rfl (q := 127) rfl ?_
    refine zIloadN d_X6_joined_127 rfl rfl (q := 128) rfl ?_
    refine zIcmp_ge d_X6_joined_128 (tgt := 135) (q := 131) (by decide) rfl (fun h128 => ?_) (fun h128 => ?_)
    · refine zIconst d_X6_joined_135 (v := 0) ic_0 (q := 136) rfl ?_
      refine zCallSP d_X6_joined_136 ml_X6_51 k_X6_truth kt_X6_truth (sp_truthC (d := d - 1) (by omega) (by decide)) rfl rfl (Nat.le_of_ble_eq_true rfl) (by decide) (by omega) zns100 (q := 139) rfl ?_
      refine zIret d_X6_joined_139 rfl rfl rfl ?_
      exact zPi (by unfold zJn bi; simp_all)
    · refine zIconst d_X6_joined_131 (v := 1) ic_1 (q := 132) rfl ?_
      refine zGoto d_X6_joined_132 (q := 136) (by decide) ?_
      refine zCallSP d_X6_joined_136 ml_X6_51 k_X6_truth kt_X6_truth (sp_truthC (d := d - 1) (by omega) (by decide)) rfl rfl (Nat.le_of_ble_eq_true rfl) (by decide) (by omega) zns100 (q := 139) rfl ?_
      refine zIret d_X6_joined_139 rfl rfl rfl ?_
      exact zPi (by unfold zJn bi; simp_all)
  rcases Decidable.em (t = (61 : Int32)) with s1_61 | s1_61
  · refine zLook d_X6_joined_1 (by decide) (off := 139) (by rw [s1_61]; decide) (q := 140) (by decide) ?_
    refine zIloadN d_X6_joined_140 rfl rfl (q := 141) rfl ?_
    refine zIloadN d_X6_joined_141 rfl rfl (q := 142) rfl ?_
    refine zIcmp_ne d_X6_joined_142 (tgt := 149) (q := 145) (by decide) rfl (fun h142 => ?_) (fun h142 => ?_)
    · refine zIconst d_X6_joined_149 (v := 0) ic_0 (q := 150) rfl ?_
      refine zCallSP d_X6_joined_150 ml_X6_51 k_X6_truth kt_X6_truth (sp_truthC (d := d - 1) (by omega) (by decide)) rfl rfl (Nat.le_of_ble_eq_true rfl) (by decide) (by omega) zns100 (q := 153) rfl ?_
      refine zIret d_X6_joined_153 rfl rfl rfl ?_
      exact zPi (by unfold zJn bi; simp_all)
    · refine zIconst d_X6_joined_145 (v := 1) ic_1 (q := 146) rfl ?_
      refine zGoto d_X6_joined_146 (q := 150) (by decide) ?_
      refine zCallSP d_X6_joined_150 ml_X6_51 k_X6_truth kt_X6_truth (sp_truthC (d := d - 1) (by omega) (by decide)) rfl rfl (Nat.le_of_ble_eq_true rfl) (by decide) (by omega) zns100 (q := 153) rfl ?_
      refine zIret d_X6_joined_153 rfl rfl rfl ?_
      exact zPi (by unfold zJn bi; simp_all)
  rcases Decidable.em (t = (62 : Int32)) with s1_62 | s1_62
  · refine zLook d_X6_joined_1 (by decide) (off := 153) (by rw [s1_62]; decide) (q := 154) (by decide) ?_
    refine zIloadN d_X6_joined_154 rfl rfl (q := 155) rfl ?_
    refine zIloadN d_X6_joined_155 rfl rfl (q := 156) rfl ?_
    refine zIcmp_le d_X6_joined_156 (tgt := 163) (q := 159) (by decide) rfl (fun h156 => ?_) (fun h156 => ?_)
    · refine zIconst d_X6_joined_163 (v := 0) ic_0 (q := 164) rfl ?_
      refine zCallSP d_X6_joined_164 ml_X6_51 k_X6_truth kt_X6_truth (sp_truthC (d := d - 1) (by omega) (by decide)) rfl rfl (Nat.le_of_ble_eq_true rfl) (by decide) (by omega) zns100 (q := 167) rfl ?_
      refine zIret d_X6_joined_167 rfl rfl rfl ?_
      exact zPi (by unfold zJn bi; simp_all)
    · refine zIconst d_X6_joined_159 (v := 1) ic_1 (q := 160) rfl ?_
      refine zGoto d_X6_joined_160 (q := 164) (by decide) ?_
      refine zCallSP d_X6_joined_164 ml_X6_51 k_X6_truth kt_X6_truth (sp_truthC (d := d - 1) (by omega) (by decide)) rfl rfl (Nat.le_of_ble_eq_true rfl) (by decide) (by omega) zns100 (q := 167) rfl ?_
      refine zIret d_X6_joined_167 rfl rfl rfl ?_
      exact zPi (by unfold zJn bi; simp_all)
  rcases Decidable.em (t = (124 : Int32)) with s1_124 | s1_124
  · refine zLook d_X6_joined_1 (by decide) (off := 91) (by rw [s1_124]; decide) (q := 92) (by decide) ?_
    refine zIloadN d_X6_joined_92 rfl rfl (q := 93) rfl ?_
    refine zIf_ne d_X6_joined_93 (tgt := 100) (q := 96) (by decide) rfl (fun h93 => ?_) (fun h93 => ?_)
    · refine zIconst d_X6_joined_100 (v := 1) ic_1 (q := 101) rfl ?_
      refine zGoto d_X6_joined_101 (q := 105) (by decide) ?_
      refine zCallSP d_X6_joined_105 ml_X6_51 k_X6_truth kt_X6_truth (sp_truthC (d := d - 1) (by omega) (by decide)) rfl rfl (Nat.le_of_ble_eq_true rfl) (by decide) (by omega) zns100 (q := 108) rfl ?_
      refine zIret d_X6_joined_108 rfl rfl rfl ?_
      exact zPi (by unfold zJn bi; simp_all)
    · refine zIloadN d_X6_joined_96 rfl rfl (q := 97) rfl ?_
      refine zIf_eq d_X6_joined_97 (tgt := 104) (q := 100) (by decide) rfl (fun h97 => ?_) (fun h97 => ?_)
      · refine zIconst d_X6_joined_104 (v := 0) ic_0 (q := 105) rfl ?_
        refine zCallSP d_X6_joined_105 ml_X6_51 k_X6_truth kt_X6_truth (sp_truthC (d := d - 1) (by omega) (by decide)) rfl rfl (Nat.le_of_ble_eq_true rfl) (by decide) (by omega) zns100 (q := 108) rfl ?_
        refine zIret d_X6_joined_108 rfl rfl rfl ?_
        exact zPi (by unfold zJn bi; simp_all)
      · refine zIconst d_X6_joined_100 (v := 1) ic_1 (q := 101) rfl ?_
        refine zGoto d_X6_joined_101 (q := 105) (by decide) ?_
        refine zCallSP d_X6_joined_105 ml_X6_51 k_X6_truth kt_X6_truth (sp_truthC (d := d - 1) (by omega) (by decide)) rfl rfl (Nat.le_of_ble_eq_true rfl) (by decide) (by omega) zns100 (q := 108) rfl ?_
        refine zIret d_X6_joined_108 rfl rfl rfl ?_
        exact zPi (by unfold zJn bi; simp_all)
  refine zLook d_X6_joined_1 (by decide) (off := 203) (by show Op.lookupswitch.offset [(37, 191), (38, 108), (42, 175), (43, 167), (45, 171), (47, 179), (60, 125), (61, 139), (62, 153), (124, 91)] 203 _ = _; rw [lv_osw s1_37 (by decide), lv_osw s1_38 (by decide), lv_osw s1_42 (by decide), lv_osw s1_43 (by decide), lv_osw s1_45 (by decide), lv_osw s1_47 (by decide), lv_osw s1_60 (by decide), lv_osw s1_61 (by decide), lv_osw s1_62 (by decide), lv_osw s1_124 (by decide)]; rfl) (q := 204) (by decide) ?_
  refine zIconst d_X6_joined_204 (v := 0) ic_0 (q := 205) rfl ?_
  refine zIret d_X6_joined_205 rfl rfl rfl ?_
  exact zPi (by unfold zJn bi; simp_all)
theorem sp_X6_withoutText (hd : 1 ≤ d) (hw : zLwf h) : zPure g l d m_X6_withoutText [.ref h] I L fs (.int (6 + I (h + 4) 0 / 2 + I (h + 4) 1 / 3 - I (h + 4) 2 / 3 - I (h + 4) 3 / 2)) := by
  refine zSp_of (lv := [(0, .ref h)]) k_X6_withoutText rfl (Nat.le_of_ble_eq_true rfl) ?_
  refine zBipush d_X6_withoutText_0 (v := 6) bc_6 (q := 2) rfl ?_
  refine zAloadN d_X6_withoutText_2 rfl rfl (q := 3) rfl ?_
  refine zGetR d_X6_withoutText_3 ff_X6_19 hw.1 (zlt4 hw) (zlw3 hw) (q := 6) rfl ?_
  refine zIconst d_X6_withoutText_6 (v := 0) ic_0 (q := 7) rfl ?_
  refine zIald d_X6_withoutText_7 hw.2.2.2.2.1 hw.2.2.2.2.2.1 (j := 0) rfl (by decide) (q := 8) rfl ?_
  refine zIconst d_X6_withoutText_8 (v := 2) ic_2 (q := 9) rfl ?_
  refine zIdiv d_X6_withoutText_9 (by decide) (q := 10) rfl ?_
  refine zIadd d_X6_withoutText_10 (q := 11) rfl ?_
  refine zAloadN d_X6_withoutText_11 rfl rfl (q := 12) rfl ?_
  refine zGetR d_X6_withoutText_12 ff_X6_19 hw.1 (zlt4 hw) (zlw3 hw) (q := 15) rfl ?_
  refine zIconst d_X6_withoutText_15 (v := 1) ic_1 (q := 16) rfl ?_
  refine zIald d_X6_withoutText_16 hw.2.2.2.2.1 hw.2.2.2.2.2.1 (j := 1) rfl (by decide) (q := 17) rfl ?_
  refine zIconst d_X6_withoutText_17 (v := 3) ic_3 (q := 18) rfl ?_
  refine zIdiv d_X6_withoutText_18 (by decide) (q := 19) rfl ?_
  refine zIadd d_X6_withoutText_19 (q := 20) rfl ?_
  refine zAloadN d_X6_withoutText_20 rfl rfl (q := 21) rfl ?_
  refine zGetR d_X6_withoutText_21 ff_X6_19 hw.1 (zlt4 hw) (zlw3 hw) (q := 24) rfl ?_
  refine zIconst d_X6_withoutText_24 (v := 2) ic_2 (q := 25) rfl ?_
  refine zIald d_X6_withoutText_25 hw.2.2.2.2.1 hw.2.2.2.2.2.1 (j := 2) rfl (by decide) (q := 26) rfl ?_
  refine zIconst d_X6_withoutText_26 (v := 3) ic_3 (q := 27) rfl ?_
  refine zIdiv d_X6_withoutText_27 (by decide) (q := 28) rfl ?_
  refine zIsub d_X6_withoutText_28 (q := 29) rfl ?_
  refine zAloadN d_X6_withoutText_29 rfl rfl (q := 30) rfl ?_
  refine zGetR d_X6_withoutText_30 ff_X6_19 hw.1 (zlt4 hw) (zlw3 hw) (q := 33) rfl ?_
  refine zIconst d_X6_withoutText_33 (v := 3) ic_3 (q := 34) rfl ?_
  refine zIald d_X6_withoutText_34 hw.2.2.2.2.1 hw.2.2.2.2.2.1 (j := 3) rfl (by decide) (q := 35) rfl ?_
  refine zIconst d_X6_withoutText_35 (v := 2) ic_2 (q := 36) rfl ?_
  refine zIdiv d_X6_withoutText_36 (by decide) (q := 37) rfl ?_
  refine zIsub d_X6_withoutText_37 (q := 38) rfl ?_
  refine zIret d_X6_withoutText_38 rfl rfl rfl ?_
  exact zPi rfl
end S19

