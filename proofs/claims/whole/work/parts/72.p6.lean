theorem d_X12_law_0 : decode (zmc m_X12_law) 0 = .ok (.aload_n 0, 1) := by decide +kernel
theorem d_X12_law_1 : decode (zmc m_X12_law) 1 = .ok (.iconst 0, 1) := by decide +kernel
theorem d_X12_law_2 : decode (zmc m_X12_law) 2 = .ok (.invokevirtual 251, 3) := by decide +kernel
theorem d_X12_law_5 : decode (zmc m_X12_law) 5 = .ok (.istore_n 1, 1) := by decide +kernel
theorem d_X12_law_6 : decode (zmc m_X12_law) 6 = .ok (.iload_n 1, 1) := by decide +kernel
theorem d_X12_law_7 : decode (zmc m_X12_law) 7 = .ok (.ifCond .lt 8, 3) := by decide +kernel
theorem d_X12_law_10 : decode (zmc m_X12_law) 10 = .ok (.bipush (-100), 2) := by decide +kernel
theorem d_X12_law_12 : decode (zmc m_X12_law) 12 = .ok (.iload_n 1, 1) := by decide +kernel
theorem d_X12_law_13 : decode (zmc m_X12_law) 13 = .ok (.isub, 1) := by decide +kernel
theorem d_X12_law_14 : decode (zmc m_X12_law) 14 = .ok (.ireturn, 1) := by decide +kernel
theorem d_X12_law_15 : decode (zmc m_X12_law) 15 = .ok (.aload_n 0, 1) := by decide +kernel
theorem d_X12_law_16 : decode (zmc m_X12_law) 16 = .ok (.iconst 1, 1) := by decide +kernel
theorem d_X12_law_17 : decode (zmc m_X12_law) 17 = .ok (.putfield 254, 3) := by decide +kernel
theorem d_X12_law_20 : decode (zmc m_X12_law) 20 = .ok (.iconst 1, 1) := by decide +kernel
theorem d_X12_law_21 : decode (zmc m_X12_law) 21 = .ok (.ireturn, 1) := by decide +kernel
theorem d_X12_readText_0 : decode (zmc m_X12_readText) 0 = .ok (.aload_n 0, 1) := by decide +kernel
theorem d_X12_readText_1 : decode (zmc m_X12_readText) 1 = .ok (.iconst 0, 1) := by decide +kernel
theorem d_X12_readText_2 : decode (zmc m_X12_readText) 2 = .ok (.putfield 191, 3) := by decide +kernel
theorem d_X12_readText_5 : decode (zmc m_X12_readText) 5 = .ok (.aload_n 0, 1) := by decide +kernel
theorem d_X12_readText_6 : decode (zmc m_X12_readText) 6 = .ok (.iconst (-1), 1) := by decide +kernel
theorem d_X12_readText_7 : decode (zmc m_X12_readText) 7 = .ok (.putfield 194, 3) := by decide +kernel
theorem d_X12_readText_10 : decode (zmc m_X12_readText) 10 = .ok (.aload_n 0, 1) := by decide +kernel
theorem d_X12_readText_11 : decode (zmc m_X12_readText) 11 = .ok (.iconst 0, 1) := by decide +kernel
theorem d_X12_readText_12 : decode (zmc m_X12_readText) 12 = .ok (.putfield 200, 3) := by decide +kernel
theorem d_X12_readText_15 : decode (zmc m_X12_readText) 15 = .ok (.aload_n 0, 1) := by decide +kernel
theorem d_X12_readText_16 : decode (zmc m_X12_readText) 16 = .ok (.iconst 0, 1) := by decide +kernel
theorem d_X12_readText_17 : decode (zmc m_X12_readText) 17 = .ok (.putfield 197, 3) := by decide +kernel
theorem d_X12_readText_20 : decode (zmc m_X12_readText) 20 = .ok (.aload_n 0, 1) := by decide +kernel
theorem d_X12_readText_21 : decode (zmc m_X12_readText) 21 = .ok (.getfield 64, 3) := by decide +kernel
theorem d_X12_readText_24 : decode (zmc m_X12_readText) 24 = .ok (.iconst 1, 1) := by decide +kernel
theorem d_X12_readText_25 : decode (zmc m_X12_readText) 25 = .ok (.iconst 0, 1) := by decide +kernel
theorem d_X12_readText_26 : decode (zmc m_X12_readText) 26 = .ok (.iastore, 1) := by decide +kernel
theorem d_X12_readText_27 : decode (zmc m_X12_readText) 27 = .ok (.aload_n 0, 1) := by decide +kernel
theorem d_X12_readText_28 : decode (zmc m_X12_readText) 28 = .ok (.invokevirtual 242, 3) := by decide +kernel
theorem d_X12_readText_31 : decode (zmc m_X12_readText) 31 = .ok (.aload_n 0, 1) := by decide +kernel
theorem d_X12_readText_32 : decode (zmc m_X12_readText) 32 = .ok (.getfield 194, 3) := by decide +kernel
theorem d_X12_readText_35 : decode (zmc m_X12_readText) 35 = .ok (.ifCond .ge 29, 3) := by decide +kernel
theorem d_X12_readText_38 : decode (zmc m_X12_readText) 38 = .ok (.aload_n 0, 1) := by decide +kernel
theorem d_X12_readText_39 : decode (zmc m_X12_readText) 39 = .ok (.invokevirtual 206, 3) := by decide +kernel
theorem d_X12_readText_42 : decode (zmc m_X12_readText) 42 = .ok (.bipush 59, 2) := by decide +kernel
theorem d_X12_readText_44 : decode (zmc m_X12_readText) 44 = .ok (.if_icmp .ne 20, 3) := by decide +kernel
theorem d_X12_readText_47 : decode (zmc m_X12_readText) 47 = .ok (.aload_n 0, 1) := by decide +kernel
theorem d_X12_readText_48 : decode (zmc m_X12_readText) 48 = .ok (.dup, 1) := by decide +kernel
theorem d_X12_readText_49 : decode (zmc m_X12_readText) 49 = .ok (.getfield 191, 3) := by decide +kernel
theorem d_X12_readText_52 : decode (zmc m_X12_readText) 52 = .ok (.iconst 1, 1) := by decide +kernel
theorem d_X12_readText_53 : decode (zmc m_X12_readText) 53 = .ok (.iadd, 1) := by decide +kernel
theorem d_X12_readText_54 : decode (zmc m_X12_readText) 54 = .ok (.putfield 191, 3) := by decide +kernel
theorem d_X12_readText_57 : decode (zmc m_X12_readText) 57 = .ok (.aload_n 0, 1) := by decide +kernel
theorem d_X12_readText_58 : decode (zmc m_X12_readText) 58 = .ok (.invokevirtual 242, 3) := by decide +kernel
theorem d_X12_readText_61 : decode (zmc m_X12_readText) 61 = .ok (.goto (-30), 3) := by decide +kernel
theorem d_X12_readText_64 : decode (zmc m_X12_readText) 64 = .ok (.aload_n 0, 1) := by decide +kernel
theorem d_X12_readText_65 : decode (zmc m_X12_readText) 65 = .ok (.getfield 194, 3) := by decide +kernel
theorem d_X12_readText_68 : decode (zmc m_X12_readText) 68 = .ok (.ifCond .ge 18, 3) := by decide +kernel
theorem d_X12_readText_71 : decode (zmc m_X12_readText) 71 = .ok (.aload_n 0, 1) := by decide +kernel
theorem d_X12_readText_72 : decode (zmc m_X12_readText) 72 = .ok (.getfield 191, 3) := by decide +kernel
theorem d_X12_readText_75 : decode (zmc m_X12_readText) 75 = .ok (.aload_n 0, 1) := by decide +kernel
theorem d_X12_readText_76 : decode (zmc m_X12_readText) 76 = .ok (.getfield 188, 3) := by decide +kernel
theorem d_X12_readText_79 : decode (zmc m_X12_readText) 79 = .ok (.if_icmp .ge 7, 3) := by decide +kernel
theorem d_X12_readText_82 : decode (zmc m_X12_readText) 82 = .ok (.aload_n 0, 1) := by decide +kernel
theorem d_X12_readText_83 : decode (zmc m_X12_readText) 83 = .ok (.invokevirtual 203, 3) := by decide +kernel
theorem d_X12_readText_86 : decode (zmc m_X12_readText) 86 = .ok (.aload_n 0, 1) := by decide +kernel
theorem d_X12_readText_87 : decode (zmc m_X12_readText) 87 = .ok (.iconst 0, 1) := by decide +kernel
theorem d_X12_readText_88 : decode (zmc m_X12_readText) 88 = .ok (.putfield 188, 3) := by decide +kernel
theorem d_X12_readText_91 : decode (zmc m_X12_readText) 91 = .ok (.aload_n 0, 1) := by decide +kernel
theorem d_X12_readText_92 : decode (zmc m_X12_readText) 92 = .ok (.getfield 194, 3) := by decide +kernel
theorem d_X12_readText_95 : decode (zmc m_X12_readText) 95 = .ok (.ifCond .lt 8, 3) := by decide +kernel
theorem d_X12_readText_98 : decode (zmc m_X12_readText) 98 = .ok (.aload_n 0, 1) := by decide +kernel
theorem d_X12_readText_99 : decode (zmc m_X12_readText) 99 = .ok (.getfield 194, 3) := by decide +kernel
theorem d_X12_readText_102 : decode (zmc m_X12_readText) 102 = .ok (.ireturn, 1) := by decide +kernel
theorem d_X12_readText_103 : decode (zmc m_X12_readText) 103 = .ok (.iconst 0, 1) := by decide +kernel
theorem d_X12_readText_104 : decode (zmc m_X12_readText) 104 = .ok (.istore_n 2, 1) := by decide +kernel
theorem d_X12_readText_105 : decode (zmc m_X12_readText) 105 = .ok (.iload_n 2, 1) := by decide +kernel
theorem d_X12_readText_106 : decode (zmc m_X12_readText) 106 = .ok (.aload_n 0, 1) := by decide +kernel
theorem d_X12_readText_107 : decode (zmc m_X12_readText) 107 = .ok (.getfield 197, 3) := by decide +kernel
theorem d_X12_readText_110 : decode (zmc m_X12_readText) 110 = .ok (.if_icmp .ge 53, 3) := by decide +kernel
theorem d_X12_readText_113 : decode (zmc m_X12_readText) 113 = .ok (.aload_n 0, 1) := by decide +kernel
theorem d_X12_readText_114 : decode (zmc m_X12_readText) 114 = .ok (.getfield 58, 3) := by decide +kernel
theorem d_X12_readText_117 : decode (zmc m_X12_readText) 117 = .ok (.sipush 130, 3) := by decide +kernel
theorem d_X12_readText_120 : decode (zmc m_X12_readText) 120 = .ok (.iload_n 1, 1) := by decide +kernel
theorem d_X12_readText_121 : decode (zmc m_X12_readText) 121 = .ok (.imul, 1) := by decide +kernel
theorem d_X12_readText_122 : decode (zmc m_X12_readText) 122 = .ok (.iload_n 2, 1) := by decide +kernel
theorem d_X12_readText_123 : decode (zmc m_X12_readText) 123 = .ok (.iadd, 1) := by decide +kernel
theorem d_X12_readText_124 : decode (zmc m_X12_readText) 124 = .ok (.aload_n 0, 1) := by decide +kernel
theorem d_X12_readText_125 : decode (zmc m_X12_readText) 125 = .ok (.getfield 58, 3) := by decide +kernel
theorem d_X12_readText_128 : decode (zmc m_X12_readText) 128 = .ok (.sipush 130, 3) := by decide +kernel
theorem d_X12_readText_131 : decode (zmc m_X12_readText) 131 = .ok (.iload_n 2, 1) := by decide +kernel
theorem d_X12_readText_132 : decode (zmc m_X12_readText) 132 = .ok (.iadd, 1) := by decide +kernel
theorem d_X12_readText_133 : decode (zmc m_X12_readText) 133 = .ok (.baload, 1) := by decide +kernel
theorem d_X12_readText_134 : decode (zmc m_X12_readText) 134 = .ok (.bastore, 1) := by decide +kernel
theorem d_X12_readText_135 : decode (zmc m_X12_readText) 135 = .ok (.aload_n 0, 1) := by decide +kernel
theorem d_X12_readText_136 : decode (zmc m_X12_readText) 136 = .ok (.getfield 61, 3) := by decide +kernel
theorem d_X12_readText_139 : decode (zmc m_X12_readText) 139 = .ok (.sipush 130, 3) := by decide +kernel
theorem d_X12_readText_142 : decode (zmc m_X12_readText) 142 = .ok (.iload_n 1, 1) := by decide +kernel
theorem d_X12_readText_143 : decode (zmc m_X12_readText) 143 = .ok (.imul, 1) := by decide +kernel
theorem d_X12_readText_144 : decode (zmc m_X12_readText) 144 = .ok (.iload_n 2, 1) := by decide +kernel
theorem d_X12_readText_145 : decode (zmc m_X12_readText) 145 = .ok (.iadd, 1) := by decide +kernel
theorem d_X12_readText_146 : decode (zmc m_X12_readText) 146 = .ok (.aload_n 0, 1) := by decide +kernel
theorem d_X12_readText_147 : decode (zmc m_X12_readText) 147 = .ok (.getfield 61, 3) := by decide +kernel
theorem d_X12_readText_150 : decode (zmc m_X12_readText) 150 = .ok (.sipush 130, 3) := by decide +kernel
theorem d_X12_readText_153 : decode (zmc m_X12_readText) 153 = .ok (.iload_n 2, 1) := by decide +kernel
theorem d_X12_readText_154 : decode (zmc m_X12_readText) 154 = .ok (.iadd, 1) := by decide +kernel
theorem d_X12_readText_155 : decode (zmc m_X12_readText) 155 = .ok (.iaload, 1) := by decide +kernel
theorem d_X12_readText_156 : decode (zmc m_X12_readText) 156 = .ok (.iastore, 1) := by decide +kernel
theorem d_X12_readText_157 : decode (zmc m_X12_readText) 157 = .ok (.iinc 2 1, 3) := by decide +kernel
theorem d_X12_readText_160 : decode (zmc m_X12_readText) 160 = .ok (.goto (-55), 3) := by decide +kernel
theorem d_X12_readText_163 : decode (zmc m_X12_readText) 163 = .ok (.aload_n 0, 1) := by decide +kernel
theorem d_X12_readText_164 : decode (zmc m_X12_readText) 164 = .ok (.getfield 64, 3) := by decide +kernel
theorem d_X12_readText_167 : decode (zmc m_X12_readText) 167 = .ok (.iload_n 1, 1) := by decide +kernel
theorem d_X12_readText_168 : decode (zmc m_X12_readText) 168 = .ok (.aload_n 0, 1) := by decide +kernel
theorem d_X12_readText_169 : decode (zmc m_X12_readText) 169 = .ok (.getfield 64, 3) := by decide +kernel
theorem d_X12_readText_172 : decode (zmc m_X12_readText) 172 = .ok (.iconst 1, 1) := by decide +kernel
theorem d_X12_readText_173 : decode (zmc m_X12_readText) 173 = .ok (.iaload, 1) := by decide +kernel
theorem d_X12_readText_174 : decode (zmc m_X12_readText) 174 = .ok (.iastore, 1) := by decide +kernel
theorem d_X12_readText_175 : decode (zmc m_X12_readText) 175 = .ok (.iconst 0, 1) := by decide +kernel
theorem d_X12_readText_176 : decode (zmc m_X12_readText) 176 = .ok (.istore_n 2, 1) := by decide +kernel
theorem d_X12_readText_177 : decode (zmc m_X12_readText) 177 = .ok (.iload_n 2, 1) := by decide +kernel
theorem d_X12_readText_178 : decode (zmc m_X12_readText) 178 = .ok (.aload_n 0, 1) := by decide +kernel
theorem d_X12_readText_179 : decode (zmc m_X12_readText) 179 = .ok (.getfield 64, 3) := by decide +kernel
theorem d_X12_readText_182 : decode (zmc m_X12_readText) 182 = .ok (.iload_n 1, 1) := by decide +kernel
theorem d_X12_readText_183 : decode (zmc m_X12_readText) 183 = .ok (.iaload, 1) := by decide +kernel
theorem d_X12_readText_184 : decode (zmc m_X12_readText) 184 = .ok (.if_icmp .ge 49, 3) := by decide +kernel
theorem d_X12_readText_187 : decode (zmc m_X12_readText) 187 = .ok (.aload_n 0, 1) := by decide +kernel
theorem d_X12_readText_188 : decode (zmc m_X12_readText) 188 = .ok (.getfield 67, 3) := by decide +kernel
theorem d_X12_readText_191 : decode (zmc m_X12_readText) 191 = .ok (.bipush 61, 2) := by decide +kernel
theorem d_X12_readText_193 : decode (zmc m_X12_readText) 193 = .ok (.iload_n 1, 1) := by decide +kernel
theorem d_X12_readText_194 : decode (zmc m_X12_readText) 194 = .ok (.imul, 1) := by decide +kernel
theorem d_X12_readText_195 : decode (zmc m_X12_readText) 195 = .ok (.iload_n 2, 1) := by decide +kernel
theorem d_X12_readText_196 : decode (zmc m_X12_readText) 196 = .ok (.iadd, 1) := by decide +kernel
theorem d_X12_readText_197 : decode (zmc m_X12_readText) 197 = .ok (.aload_n 0, 1) := by decide +kernel
theorem d_X12_readText_198 : decode (zmc m_X12_readText) 198 = .ok (.getfield 67, 3) := by decide +kernel
theorem d_X12_readText_201 : decode (zmc m_X12_readText) 201 = .ok (.bipush 61, 2) := by decide +kernel
theorem d_X12_readText_203 : decode (zmc m_X12_readText) 203 = .ok (.iload_n 2, 1) := by decide +kernel
theorem d_X12_readText_204 : decode (zmc m_X12_readText) 204 = .ok (.iadd, 1) := by decide +kernel
theorem d_X12_readText_205 : decode (zmc m_X12_readText) 205 = .ok (.saload, 1) := by decide +kernel
theorem d_X12_readText_206 : decode (zmc m_X12_readText) 206 = .ok (.sastore, 1) := by decide +kernel
theorem d_X12_readText_207 : decode (zmc m_X12_readText) 207 = .ok (.aload_n 0, 1) := by decide +kernel
theorem d_X12_readText_208 : decode (zmc m_X12_readText) 208 = .ok (.getfield 71, 3) := by decide +kernel
theorem d_X12_readText_211 : decode (zmc m_X12_readText) 211 = .ok (.bipush 61, 2) := by decide +kernel
theorem d_X12_readText_213 : decode (zmc m_X12_readText) 213 = .ok (.iload_n 1, 1) := by decide +kernel
theorem d_X12_readText_214 : decode (zmc m_X12_readText) 214 = .ok (.imul, 1) := by decide +kernel
theorem d_X12_readText_215 : decode (zmc m_X12_readText) 215 = .ok (.iload_n 2, 1) := by decide +kernel
theorem d_X12_readText_216 : decode (zmc m_X12_readText) 216 = .ok (.iadd, 1) := by decide +kernel
theorem d_X12_readText_217 : decode (zmc m_X12_readText) 217 = .ok (.aload_n 0, 1) := by decide +kernel
theorem d_X12_readText_218 : decode (zmc m_X12_readText) 218 = .ok (.getfield 71, 3) := by decide +kernel
theorem d_X12_readText_221 : decode (zmc m_X12_readText) 221 = .ok (.bipush 61, 2) := by decide +kernel
theorem d_X12_readText_223 : decode (zmc m_X12_readText) 223 = .ok (.iload_n 2, 1) := by decide +kernel
theorem d_X12_readText_224 : decode (zmc m_X12_readText) 224 = .ok (.iadd, 1) := by decide +kernel
theorem d_X12_readText_225 : decode (zmc m_X12_readText) 225 = .ok (.saload, 1) := by decide +kernel
theorem d_X12_readText_226 : decode (zmc m_X12_readText) 226 = .ok (.sastore, 1) := by decide +kernel
theorem d_X12_readText_227 : decode (zmc m_X12_readText) 227 = .ok (.iinc 2 1, 3) := by decide +kernel
theorem d_X12_readText_230 : decode (zmc m_X12_readText) 230 = .ok (.goto (-53), 3) := by decide +kernel
theorem d_X12_readText_233 : decode (zmc m_X12_readText) 233 = .ok (.iconst (-1), 1) := by decide +kernel
theorem d_X12_readText_234 : decode (zmc m_X12_readText) 234 = .ok (.ireturn, 1) := by decide +kernel
/-! THE REFERENCE READS A TEXT: the law -/
theorem zLs_low {I J : Nat → Nat → Int32} {pg : Option (List zLine)} (h : yFrL I J) (h33 : J 64 33 = I 64 33) (hM : zMl I pg) : zMl J pg := by
  cases pg with
  | none => exact h33.trans hM
  | some ls =>
    obtain ⟨k1, k2, k3, k4, k5, k6⟩ : I 64 33 = 1 ∧ I 82 0 = nI ls.length ∧ ls.length ≤ 61 ∧ zTot ls ≤ 130 ∧ zLs (I 80) (I 81) (I 83) (I 84) 0 0 0 ls ∧ ∀ x ∈ ls, zWfL x := hM
    exact ⟨h33.trans k1, h.2.2.2.1.trans k2, k3, k4, zLs_ext (A := I 80) (W := I 81) (T := I 83) (E := I 84) ls 0 0 (fun i hi => h.2.2.1 i (by omega)) (fun i hi => h.2.2.2.2 i (by omega)) k5, k6⟩
theorem zLs_exl {A W T E A' W' T' E' : Nat → Int32} {b : Nat} : ∀ (ls : List zLine) (q f : Nat), (∀ i, b + f ≤ i → i < b + f + zTot ls → A' i = A i ∧ W' i = W i) → (∀ i, q ≤ i → i < q + ls.length → T' i = T i ∧ E' i = E i) → zLs A W T E b q f ls → zLs A' W' T' E' b q f ls
  | [], _, _, _, _, _ => trivial
  | x :: ls, q, f, h1, h2, h => by
    obtain ⟨⟨k1, k2⟩, k3, k4⟩ := h
    have ht : zTot (x :: ls) = (zTc x).length + x.2.length + zTot ls := rfl
    have hl : (x :: ls).length = ls.length + 1 := rfl
    refine ⟨⟨by rw [(h2 q (by omega) (by omega)).1]; exact k1, by rw [(h2 q (by omega) (by omega)).2]; exact k2⟩, fun i y hy => ?_, zLs_exl ls (q + 1) _ (fun i hi hi2 => h1 i (by omega) (by omega)) (fun i hi hi2 => h2 i (by omega) (by omega)) k4⟩
    have hi := (List.getElem?_eq_some_iff.mp hy).1
    rw [List.length_append] at hi
    obtain ⟨e1, e2⟩ := h1 (b + f + i) (by omega) (by omega)
    rw [e1, e2]
    exact k3 i y hy
theorem zLs_small {A W T E : Nat → Int32} {b : Nat} : ∀ (ls : List zLine) (q f : Nat), zLs A W T E b q f ls → f + zTot ls < 1000 → ∀ i, i < ls.length → (∃ v, v < 1000 ∧ T (q + i) = nI v) ∧ ∃ v, v < 1000 ∧ E (q + i) = nI v
  | [], _, _, _, _, i, hi => absurd hi (Nat.not_lt_zero _)
  | x :: ls, q, f, h, hf, i, hi => by
    obtain ⟨⟨k1, k2⟩, k3, k4⟩ := h
    have ht : zTot (x :: ls) = (zTc x).length + x.2.length + zTot ls := rfl
    have hl : (x :: ls).length = ls.length + 1 := rfl
    cases i with
    | zero => exact ⟨⟨_, by omega, k1⟩, ⟨_, by omega, k2⟩⟩
    | succ i =>
      have := zLs_small ls (q + 1) _ k4 (by omega) i (by omega)
      rw [show q + 1 + i = q + (i + 1) by omega] at this
      exact this
def ySc (c : Int32) : Prop := c = 0 ∨ c = 1 ∨ c = 4 ∨ c = 5 ∨ c ∈ ([37, 38, 42, 43, 45, 47, 60, 61, 62, 124] : List Int32)
theorem ySc_of : ∀ (c : List zSt1) (a b : Nat), zWfS c a b → ∀ x ∈ c, ySc x.1
  | [], _, _, _, x, hx => by cases hx
  | y :: c, a, b, h, x, hx => by
    have key : ySc y.1 ∧ ∃ a', zWfS c a' b := by
      rcases h with ⟨h0, h2⟩ | ⟨h1, -, h2⟩ | ⟨h4 | h5, -, h2⟩ | ⟨ho, -, h2⟩
      · exact ⟨Or.inl h0, _, h2⟩
      · exact ⟨Or.inr (Or.inl h1), _, h2⟩
      · exact ⟨Or.inr (Or.inr (Or.inl h4)), _, h2⟩
      · exact ⟨Or.inr (Or.inr (Or.inr (Or.inl h5))), _, h2⟩
      · exact ⟨Or.inr (Or.inr (Or.inr (Or.inr ho))), _, h2⟩
    obtain ⟨k1, a', k2⟩ := key
    rcases List.mem_cons.mp hx with rfl | hx
    · exact k1
    · exact ySc_of c a' b k2 x hx
theorem ySc_b {c : Int32} (h : ySc c) : (zRc c).toInt8.toInt32 = zRc c := by
  rcases h with rfl | rfl | rfl | rfl | h
  · decide
  · decide
  · decide
  · decide
  · simp only [List.mem_cons, List.not_mem_nil, or_false] at h
    rcases h with rfl | rfl | rfl | rfl | rfl | rfl | rfl | rfl | rfl | rfl <;> decide
theorem zLs_byte {A W T E : Nat → Int32} {b : Nat} : ∀ (ls : List zLine) (q f : Nat), zLs A W T E b q f ls → (∀ x ∈ ls, zWfL x) → ∀ i, i < zTot ls → (A (b + f + i)).toInt8.toInt32 = A (b + f + i)
  | [], _, _, _, _, i, hi => absurd hi (Nat.not_lt_zero _)
  | x :: ls, q, f, h, hw, i, hi => by
    obtain ⟨k1, k3, k4⟩ := h
    have ht : zTot (x :: ls) = (zTc x).length + x.2.length + zTot ls := rfl
    by_cases c : i < (zTc x ++ x.2).length
    · have e := k3 i _ (List.getElem?_eq_getElem c)
      rw [e.1]
      refine ySc_b ?_
      have hm := List.getElem_mem c
      obtain ⟨w1, w2⟩ := hw x List.mem_cons_self
      rcases List.mem_append.mp hm with z | z
      · obtain ⟨t, v⟩ := x
        cases t with
        | none => exact absurd z (List.not_mem_nil)
        | some t => exact ySc_of t 0 1 (w2 t rfl) _ z
      · exact ySc_of _ 0 1 w1 _ z
    · rw [List.length_append] at c
      have := zLs_byte ls (q + 1) _ k4 (fun y hy => hw y (List.mem_cons_of_mem _ hy)) (i - ((zTc x).length + x.2.length)) (by omega)
      rw [show b + (f + ((zTc x).length + x.2.length)) + (i - ((zTc x).length + x.2.length)) = b + f + i by omega] at this
      exact this
section S72
variable {g : zG} {l : Launch} {I V : Nat → Nat → Int32} {T : Nat → Int32} {L K : Nat → Nat → Int64} {fs : Nat × Nat × Option Nat} {m : Nat} {pg : Option (List zLine)}
/-- what a text's reading leaves: a fault, and all as it was; or a law -/
def yRead (I : Nat → Nat → Int32) (T : Nat → Int32) (m : Nat) (x : Int32) (J : Nat → Nat → Int32) : Prop :=
  x = zFa T m ∧ J 64 21 = 0 ∧ (∀ a, a ≠ 64 → (a < 80 ∨ 84 < a) → J a = I a) ∧ (∀ k, (k < 21 ∨ 25 < k) → J 64 k = I 64 k) ∧
  ((0 ≤ zFa T m ∧ yFrL (zup I 64 (zup (I 64) 21 0)) J) ∨ (zFa T m = -1 ∧ ∃ ls, zTR T m = (m, some ls) ∧ J 82 0 = nI ls.length ∧ ls.length ≤ 61 ∧ zTot ls ≤ 130 ∧ zLs (J 80) (J 81) (J 83) (J 84) 0 0 0 ls ∧ ∀ x ∈ ls, zWfL x))
theorem sp_X12_readText (hT : I 79 = T) (h21 : I 64 21 = nI m) (hm : m ≤ 120) {d : Nat} (hd : 48 ≤ d) : zSp g l d 100 m_X12_readText [.ref 64, .int 0] (zU I L fs) (zX (fun x w => ∃ J, w = zU J L fs ∧ yRead I T m x J)) := by
  have e0 : ∀ k, (130 : Int32) * 0 + nI k = nI k := fun k => by rw [show (130 : Int32) * 0 = 0 from by decide, Int32.zero_add]
  have e130 : ∀ k, (130 : Int32) + nI k = nI (130 + k) := fun k => nI_add 130 k
  have e610 : ∀ k, (61 : Int32) * 0 + nI k = nI k := fun k => by rw [show (61 : Int32) * 0 = 0 from by decide, Int32.zero_add]
  have e61 : ∀ k, (61 : Int32) + nI k = nI (61 + k) := fun k => nI_add 61 k
  -- a fault is told
  have told : ∀ J1 r, yLb I J1 m r → zFa T m = nI r → zA g l d m_X12_readText J1 L fs 86 [(0, .ref 64), (1, .int 0)] (zX (fun x w => ∃ J, w = zU J L fs ∧ yRead I T m x J)) := by
    intro J1 r h1 hF
    have g0 : ¬ nI r < 0 := nI_pos (by have := h1.2.2; omega)
    refine zAloadN d_X12_readText_86 rfl rfl (q := 87) rfl ?_
    refine zIconst d_X12_readText_87 (v := 0) ic_0 (q := 88) rfl ?_
    refine zPutI d_X12_readText_88 ff_X12_188 rfl rfl rfl sh_64 (by decide) (q := 91) rfl ?_
    refine zAloadN d_X12_readText_91 rfl rfl (q := 92) rfl ?_
    refine zGetI d_X12_readText_92 ff_X12_194 sh_64 (by decide) (q := 95) rfl ?_
    rw [show (zup J1 64 (zup (J1 64) 21 0)) 64 23 = nI r from h1.2.1]
    refine zIf_lt d_X12_readText_95 (tgt := 103) (q := 98) (by decide) rfl (fun h => absurd h g0) (fun h95 => ?_)
    refine zAloadN d_X12_readText_98 rfl rfl (q := 99) rfl ?_
    refine zGetI d_X12_readText_99 ff_X12_194 sh_64 (by decide) (q := 102) rfl ?_
    refine zIret d_X12_readText_102 rfl rfl rfl ?_
    refine ⟨_, rfl, _, rfl, by rw [hF]; exact h1.2.1, rfl, fun a q1 q2 => by rw [zup_ne q1]; exact h1.1.1 a q1 q2, fun k hk => by rw [zup_eq, zup_ne (by omega)]; exact h1.1.2.1 k (by omega), Or.inl ⟨by rw [hF]; exact zn_ge (by have := h1.2.2; omega), ?_⟩⟩
    refine ⟨fun a q1 q2 => by rw [zup_ne q1, zup_ne q1]; exact h1.1.1 a q1 q2, fun k hk => ?_, fun i hi => h1.1.2.2.1 i hi, h1.1.2.2.2.1, fun i hi => h1.1.2.2.2.2 i hi⟩
    rw [zup_eq, zup_eq]
    by_cases e : k = 21
    · subst e; rw [zup_eq, zup_eq]
    · rw [zup_ne e, zup_ne e]; exact h1.1.2.1 k hk
  -- the law is taken over: lines, then steps
  have lines : ∀ (ls : List zLine) (J1 : Nat → Nat → Int32), zFa T m = -1 → zTR T m = (m, some ls) → ls.length ≤ 61 → zTot ls ≤ 120 → (∀ x ∈ ls, zWfL x) → J1 64 21 = 0 → (∀ a, a ≠ 64 → (a < 80 ∨ 84 < a) → J1 a = I a) → (∀ k, (k < 21 ∨ 25 < k) → J1 64 k = I 64 k) → J1 82 0 = nI ls.length →
      ∀ k, k ≤ ls.length → ∀ F G : Nat → Int32, (∀ i, i < k → F i = F (61 + i) ∧ G i = G (61 + i)) → zLs (fun i => J1 80 (130 + i)) (fun i => J1 81 (130 + i)) F G 0 61 0 ls → (∀ i, i < zTot ls → J1 80 i = J1 80 (130 + i) ∧ J1 81 i = J1 81 (130 + i)) →
      zA g l d m_X12_readText (zup (zup J1 83 F) 84 G) L fs 177 [(2, .int (nI k)), (0, .ref 64), (1, .int 0)] (zX (fun x w => ∃ J, w = zU J L fs ∧ yRead I T m x J)) := by
    intro ls J1 hF hR hl61 htot hwf j21 jf jk j82
    refine zloop ls.length (fun k hk ih F G hFG hls hst => ?_)
    have sm := zLs_small ls 61 0 hls (by omega)
    have w82 : ∀ F G, (zup (zup J1 83 F) 84 G) 82 0 = nI ls.length := fun _ _ => j82
    refine zIloadN d_X12_readText_177 rfl rfl (q := 178) rfl ?_
    refine zAloadN d_X12_readText_178 rfl rfl (q := 179) rfl ?_
    refine zGetR d_X12_readText_179 ff_X12_64 sh_64 (by decide) r_64_28 (q := 182) rfl ?_
    refine zIloadN d_X12_readText_182 rfl rfl (q := 183) rfl ?_
    refine zIald d_X12_readText_183 sh_82 (by decide) (j := 0) rfl (by decide) (q := 184) rfl ?_
    rw [w82]
    refine zIcmp_ge d_X12_readText_184 (tgt := 233) (q := 187) (by decide) rfl (fun h184 => ?_) (fun h184 => ?_)
    · have e : k = ls.length := by have := nle h184; omega
      subst e
      refine zIconst d_X12_readText_233 (v := -1) ic_m1 (q := 234) rfl ?_
      refine zIret d_X12_readText_234 rfl rfl rfl ?_
      refine ⟨_, rfl, _, rfl, hF.symm, j21, fun a q1 q2 => by rw [zup_ne (by omega), zup_ne (by omega)]; exact jf a q1 q2, fun k hk => jk k hk, Or.inr ⟨hF, ls, hR, j82, hl61, by omega, ?_, hwf⟩⟩
      exact zLs_shift (A := fun i => J1 80 (130 + i)) (W := fun i => J1 81 (130 + i)) (T := F) (E := G) (b := 0) (c := 61) ls 0 0 (fun i hi => by rw [Nat.zero_add]; exact hst i (by omega)) (fun i hi => hFG i (by omega)) hls
    · have hlt := nnle h184
      refine zAloadN d_X12_readText_187 rfl rfl (q := 188) rfl ?_
      refine zGetR d_X12_readText_188 ff_X12_67 sh_64 (by decide) r_64_29 (q := 191) rfl ?_
      refine zBipush d_X12_readText_191 (v := 61) bc_61 (q := 193) rfl ?_
      refine zIloadN d_X12_readText_193 rfl rfl (q := 194) rfl ?_
      refine zImul d_X12_readText_194 (q := 195) rfl ?_
      refine zIloadN d_X12_readText_195 rfl rfl (q := 196) rfl ?_
      refine zIadd d_X12_readText_196 (q := 197) rfl ?_
      rw [e610]
      refine zAloadN d_X12_readText_197 rfl rfl (q := 198) rfl ?_
      refine zGetR d_X12_readText_198 ff_X12_67 sh_64 (by decide) r_64_29 (q := 201) rfl ?_
      refine zBipush d_X12_readText_201 (v := 61) bc_61 (q := 203) rfl ?_
      refine zIloadN d_X12_readText_203 rfl rfl (q := 204) rfl ?_
      refine zIadd d_X12_readText_204 (q := 205) rfl ?_
      rw [e61]
      refine zSald d_X12_readText_205 sh_83 (by decide) rfl (by omega) (q := 206) rfl ?_
      rw [show (zup (zup J1 83 F) 84 G) 83 (61 + k) = F (61 + k) from rfl]
      obtain ⟨⟨v1, hv1, ev1⟩, v2, hv2, ev2⟩ := sm k hlt
      rw [ev1]
      refine zSast d_X12_readText_206 sh_83 (by decide) rfl (by omega) (q := 207) rfl ?_
      rw [yshort v1 hv1, ← ev1]
      refine zAloadN d_X12_readText_207 rfl rfl (q := 208) rfl ?_
      refine zGetR d_X12_readText_208 ff_X12_71 sh_64 (by decide) r_64_30 (q := 211) rfl ?_
      refine zBipush d_X12_readText_211 (v := 61) bc_61 (q := 213) rfl ?_
      refine zIloadN d_X12_readText_213 rfl rfl (q := 214) rfl ?_
      refine zImul d_X12_readText_214 (q := 215) rfl ?_
      refine zIloadN d_X12_readText_215 rfl rfl (q := 216) rfl ?_
      refine zIadd d_X12_readText_216 (q := 217) rfl ?_
      rw [e610]
      refine zAloadN d_X12_readText_217 rfl rfl (q := 218) rfl ?_
      refine zGetR d_X12_readText_218 ff_X12_71 sh_64 (by decide) r_64_30 (q := 221) rfl ?_
      refine zBipush d_X12_readText_221 (v := 61) bc_61 (q := 223) rfl ?_
      refine zIloadN d_X12_readText_223 rfl rfl (q := 224) rfl ?_
      refine zIadd d_X12_readText_224 (q := 225) rfl ?_
      rw [e61]
      refine zSald d_X12_readText_225 sh_84 (by decide) rfl (by omega) (q := 226) rfl ?_
      rw [show ∀ X, (zup (zup (zup J1 83 F) 84 G) 83 X) 84 (61 + k) = G (61 + k) from fun _ => rfl, ev2]
      refine zSast d_X12_readText_226 sh_84 (by decide) rfl (by omega) (q := 227) rfl ?_
      rw [yshort v2 hv2, ← ev2]
      refine zIinc d_X12_readText_227 rfl (zinc _) (by decide) rfl (q := 230) rfl ?_
      refine zGoto d_X12_readText_230 (q := 177) (by decide) ?_
      refine zSub [0, 1, 2] rfl ?_
      have h2 := ih hlt (zup F k (F (61 + k))) (zup G k (G (61 + k))) (fun i hi => by
        by_cases e : i = k
        · subst e; rw [zup_eq, zup_ne (by omega), zup_eq, zup_ne (by omega)]; exact ⟨rfl, rfl⟩
        · rw [zup_ne e, zup_ne (by omega), zup_ne e, zup_ne (by omega)]; exact hFG i (by omega)) (zLs_exl (A := fun i => J1 80 (130 + i)) (W := fun i => J1 81 (130 + i)) (T := F) (E := G) ls 61 0 (fun i _ _ => ⟨rfl, rfl⟩) (fun i _ _ => by rw [zup_ne (by omega), zup_ne (by omega)]; exact ⟨rfl, rfl⟩) hls) hst
      have eW : ∀ X Y, zup (zup (zup (zup J1 83 F) 84 G) 83 X) 84 Y = zup (zup J1 83 X) 84 Y := fun X Y => by rw [zup_3 (by decide), zup_3 (by decide)]
      rw [← eW] at h2
      exact h2
  have steps : ∀ (ls : List zLine) (J1 : Nat → Nat → Int32), zFa T m = -1 → zTR T m = (m, some ls) → ls.length ≤ 61 → zTot ls ≤ 120 → J1 64 21 = 0 → J1 64 25 = nI (zTot ls) → (∀ a, a ≠ 64 → (a < 80 ∨ 84 < a) → J1 a = I a) → (∀ k, (k < 21 ∨ 25 < k) → J1 64 k = I 64 k) → J1 82 1 = nI ls.length → zLs (J1 80) (J1 81) (J1 83) (J1 84) 130 61 0 ls → (∀ x ∈ ls, zWfL x) →
      ∀ k, k ≤ zTot ls → ∀ F G : Nat → Int32, (∀ i, i < k → F i = J1 80 (130 + i) ∧ G i = J1 81 (130 + i)) → (∀ i, 130 ≤ i → F i = J1 80 i ∧ G i = J1 81 i) →
      zA g l d m_X12_readText (zup (zup J1 80 F) 81 G) L fs 105 [(2, .int (nI k)), (0, .ref 64), (1, .int 0)] (zX (fun x w => ∃ J, w = zU J L fs ∧ yRead I T m x J)) := by
    intro ls J1 hF hR hl61 htot j21 j25 jf jk j82 hls hwf
    obtain ⟨N, eN⟩ : ∃ N, N = zTot ls := ⟨_, rfl⟩
    rw [← eN] at htot j25
    rw [← eN]
    refine zloop N (fun k hk ih F G hlo hhi => ?_)
    have w25 : ∀ F G, (zup (zup J1 80 F) 81 G) 64 25 = nI N := fun _ _ => j25
    have wb : k < N → (F (130 + k)).toInt8.toInt32 = F (130 + k) := fun hlt => by rw [(hhi _ (by omega)).1]; exact zLs_byte ls 61 0 hls hwf k (by omega)
    refine zIloadN d_X12_readText_105 rfl rfl (q := 106) rfl ?_
    refine zAloadN d_X12_readText_106 rfl rfl (q := 107) rfl ?_
    refine zGetI d_X12_readText_107 ff_X12_197 sh_64 (by decide) (q := 110) rfl ?_
    rw [w25]
    refine zIcmp_ge d_X12_readText_110 (tgt := 163) (q := 113) (by decide) rfl (fun h110 => ?_) (fun h110 => ?_)
    · have e : k = N := by have := nle h110; omega
      subst e
      refine zAloadN d_X12_readText_163 rfl rfl (q := 164) rfl ?_
      refine zGetR d_X12_readText_164 ff_X12_64 sh_64 (by decide) r_64_28 (q := 167) rfl ?_
      refine zIloadN d_X12_readText_167 rfl rfl (q := 168) rfl ?_
      refine zAloadN d_X12_readText_168 rfl rfl (q := 169) rfl ?_
      refine zGetR d_X12_readText_169 ff_X12_64 sh_64 (by decide) r_64_28 (q := 172) rfl ?_
      refine zIconst d_X12_readText_172 (v := 1) ic_1 (q := 173) rfl ?_
      refine zIald d_X12_readText_173 sh_82 (by decide) (j := 1) rfl (by decide) (q := 174) rfl ?_
      refine zIast d_X12_readText_174 sh_82 (by decide) (j := 0) rfl (by decide) (q := 175) rfl ?_
      refine zIconst d_X12_readText_175 (v := 0) ic_0 (q := 176) rfl ?_
      refine zIstoreN d_X12_readText_176 rfl (by decide) rfl (q := 177) rfl ?_
      refine zSub [0, 1, 2] rfl ?_
      have h2 := lines ls (zup (zup (zup J1 80 F) 81 G) 82 (zup (J1 82) 0 (nI ls.length))) hF hR hl61 (by omega) hwf j21 (fun a q1 q2 => by rw [zup_ne (by omega), zup_ne (by omega), zup_ne (by omega)]; exact jf a q1 q2) jk rfl 0 (Nat.zero_le _) (J1 83) (J1 84) (fun i hi => absurd hi (Nat.not_lt_zero _)) ?_ (fun i hi => by
        have h3 := hlo i (by omega)
        have h4 := hhi (130 + i) (by omega)
        exact ⟨h3.1.trans h4.1.symm, h3.2.trans h4.2.symm⟩)
      · have eW : zup (zup (zup (zup (zup J1 80 F) 81 G) 82 (zup (J1 82) 0 (nI ls.length))) 83 (J1 83)) 84 (J1 84) = zup (zup (zup J1 80 F) 81 G) 82 (zup (J1 82) 0 (nI ls.length)) := by
          rw [show J1 83 = (zup (zup (zup J1 80 F) 81 G) 82 (zup (J1 82) 0 (nI ls.length))) 83 from rfl, zup_self, show J1 84 = (zup (zup (zup J1 80 F) 81 G) 82 (zup (J1 82) 0 (nI ls.length))) 84 from rfl, zup_self]
        rw [eW, ← j82] at h2
        exact h2
      · exact zLs_shift (A := J1 80) (W := J1 81) (T := J1 83) (E := J1 84) (b := 130) (c := 0) ls 61 0 (fun i hi => hhi (130 + i) (by omega)) (fun i hi => by rw [Nat.zero_add]; exact ⟨rfl, rfl⟩) hls
    · have hlt := nnle h110
      refine zAloadN d_X12_readText_113 rfl rfl (q := 114) rfl ?_
      refine zGetR d_X12_readText_114 ff_X12_58 sh_64 (by decide) r_64_26 (q := 117) rfl ?_
      refine zSipush d_X12_readText_117 (v := 130) sc_130 (q := 120) rfl ?_
      refine zIloadN d_X12_readText_120 rfl rfl (q := 121) rfl ?_
      refine zImul d_X12_readText_121 (q := 122) rfl ?_
      refine zIloadN d_X12_readText_122 rfl rfl (q := 123) rfl ?_
      rw [show (130 : Int32) * 0 = 0 from by decide]
      refine zIadd d_X12_readText_123 (q := 124) rfl ?_
      rw [Int32.zero_add]
      refine zAloadN d_X12_readText_124 rfl rfl (q := 125) rfl ?_
      refine zGetR d_X12_readText_125 ff_X12_58 sh_64 (by decide) r_64_26 (q := 128) rfl ?_
      refine zSipush d_X12_readText_128 (v := 130) sc_130 (q := 131) rfl ?_
      refine zIloadN d_X12_readText_131 rfl rfl (q := 132) rfl ?_
      refine zIadd d_X12_readText_132 (q := 133) rfl ?_
      rw [e130]
      refine zBald d_X12_readText_133 sh_80 (by decide) rfl (by omega) (q := 134) rfl ?_
      refine zBast d_X12_readText_134 sh_80 (by decide) rfl (by omega) (q := 135) rfl ?_
      rw [show (zup (zup J1 80 F) 81 G) 80 (130 + k) = F (130 + k) from rfl, wb hlt]
      refine zAloadN d_X12_readText_135 rfl rfl (q := 136) rfl ?_
      refine zGetR d_X12_readText_136 ff_X12_61 sh_64 (by decide) r_64_27 (q := 139) rfl ?_
      refine zSipush d_X12_readText_139 (v := 130) sc_130 (q := 142) rfl ?_
      refine zIloadN d_X12_readText_142 rfl rfl (q := 143) rfl ?_
      refine zImul d_X12_readText_143 (q := 144) rfl ?_
      refine zIloadN d_X12_readText_144 rfl rfl (q := 145) rfl ?_
      rw [show (130 : Int32) * 0 = 0 from by decide]
      refine zIadd d_X12_readText_145 (q := 146) rfl ?_
      rw [Int32.zero_add]
      refine zAloadN d_X12_readText_146 rfl rfl (q := 147) rfl ?_
      refine zGetR d_X12_readText_147 ff_X12_61 sh_64 (by decide) r_64_27 (q := 150) rfl ?_
      refine zSipush d_X12_readText_150 (v := 130) sc_130 (q := 153) rfl ?_
      refine zIloadN d_X12_readText_153 rfl rfl (q := 154) rfl ?_
      refine zIadd d_X12_readText_154 (q := 155) rfl ?_
      rw [e130]
      refine zIald d_X12_readText_155 sh_81 (by decide) rfl (by omega) (q := 156) rfl ?_
      refine zIast d_X12_readText_156 sh_81 (by decide) rfl (by omega) (q := 157) rfl ?_
      refine zIinc d_X12_readText_157 rfl (zinc _) (by decide) rfl (q := 160) rfl ?_
      refine zGoto d_X12_readText_160 (q := 105) (by decide) ?_
      refine zSub [0, 1, 2] rfl ?_
      have h2 := ih hlt (zup F k (F (130 + k))) (zup G k (G (130 + k))) (fun i hi => by
        by_cases e : i = k
        · subst e; rw [zup_eq, zup_eq]; exact hhi _ (by omega)
        · rw [zup_ne e, zup_ne e]; exact hlo i (by omega)) (fun i hi => by rw [zup_ne (by omega), zup_ne (by omega)]; exact hhi i hi)
      have eW : ∀ X Y, zup (zup (zup (zup J1 80 F) 81 G) 80 X) 81 Y = zup (zup J1 80 X) 81 Y := fun X Y => by rw [zup_3 (by decide), zup_3 (by decide)]
      rw [← eW] at h2
      exact h2
  have loop : ∀ n J p pg, pg.length + (n + 1) = 121 → 2 * pg.length ≤ p → p ≤ m → (∀ x ∈ pg, zWfL x) → zTx T m (n + 1) p pg = zTR T m → ((∃ y, (zLn T m p).2 = some y ∧ yLn I J m (zLn T m p).1 (pg ++ [y])) ∨ (((zLn T m p).2 = none ∨ yDg T m (zLn T m p).1) ∧ yLb I J m (zLn T m p).1)) →
      zA g l d m_X12_readText J L fs 31 [(0, .ref 64), (1, .int 0)] (zX (fun x w => ∃ J, w = zU J L fs ∧ yRead I T m x J)) := by
    intro n
    induction n with
    | zero => intro J p pg e1 e2 e3; omega
    | succ n ih =>
    intro J p pg e1 e2 e3 hpg hR hJ
    obtain ⟨r1, r2, r3⟩ := zLn_gd (T := T) (m := m) e3
    obtain ⟨r, hr⟩ : ∃ r, r = (zLn T m p).1 := ⟨_, rfl⟩
    rw [← hr] at hJ r1 r2
    rcases hJ with ⟨y, ey, hy⟩ | ⟨hb, hb2⟩
    · obtain ⟨s1, s2, s3⟩ := r3 y ey
      rw [← hr] at s1
      obtain ⟨f0, ⟨h22, h23, h24, h25⟩, hnp, hp, h82, hls⟩ := hy
      have hpg2 : ∀ x ∈ pg ++ [y], zWfL x := fun x hx => by
        rcases List.mem_append.mp hx with hx | hx
        · exact hpg x hx
        · rw [List.mem_singleton.mp hx]; exact s2
      have hlen : (pg ++ [y]).length = pg.length + 1 := by rw [List.length_append]; rfl
      have jT : J 79 = T := (f0.1 79 (by decide) (by decide)).trans hT
      have j21 : J 64 21 = nI m := (f0.2.1 21 (by decide)).trans h21
      have good : zTR T m = (m, some (pg ++ [y])) → r = m → zFa T m = -1 → zA g l d m_X12_readText J L fs 86 [(0, .ref 64), (1, .int 0)] (zX (fun x w => ∃ J, w = zU J L fs ∧ yRead I T m x J)) := by
        intro eT er eF
        refine zAloadN d_X12_readText_86 rfl rfl (q := 87) rfl ?_
        refine zIconst d_X12_readText_87 (v := 0) ic_0 (q := 88) rfl ?_
        refine zPutI d_X12_readText_88 ff_X12_188 rfl rfl rfl sh_64 (by decide) (q := 91) rfl ?_
        refine zAloadN d_X12_readText_91 rfl rfl (q := 92) rfl ?_
        refine zGetI d_X12_readText_92 ff_X12_194 sh_64 (by decide) (q := 95) rfl ?_
        rw [show (zup J 64 (zup (J 64) 21 0)) 64 23 = -1 from h23]
        refine zIf_lt d_X12_readText_95 (tgt := 103) (q := 98) (by decide) rfl (fun h95 => ?_) (fun h => absurd (by decide) h)
        refine zIconst d_X12_readText_103 (v := 0) ic_0 (q := 104) rfl ?_
        refine zIstoreN d_X12_readText_104 rfl (by decide) rfl (q := 105) rfl ?_
        refine zSub [0, 1, 2] rfl ?_
        have key := steps (pg ++ [y]) (zup J 64 (zup (J 64) 21 0)) eF eT (by omega) (by omega) rfl h25 (fun a q1 q2 => by rw [zup_ne q1]; exact f0.1 a q1 q2) (fun k q => by rw [zup_eq, zup_ne (by omega)]; exact f0.2.1 k (by omega)) h82 hls hpg2 0 (Nat.zero_le _) (J 80) (J 81) (fun i hi => absurd hi (Nat.not_lt_zero _)) (fun i _ => ⟨rfl, rfl⟩)
        have eW : zup (zup (zup J 64 (zup (J 64) 21 0)) 80 (J 80)) 81 (J 81) = zup J 64 (zup (J 64) 21 0) := by
          rw [show J 80 = (zup J 64 (zup (J 64) 21 0)) 80 from rfl, zup_self, show J 81 = (zup J 64 (zup (J 64) 21 0)) 81 from rfl, zup_self]
        rw [eW] at key
        exact key
      -- behind the last line
      have last : ¬ zAt T m r = 59 → zA g l d m_X12_readText J L fs 64 [(0, .ref 64), (1, .int 0)] (zX (fun x w => ∃ J, w = zU J L fs ∧ yRead I T m x J)) := by
        intro h44
        have eT : zTR T m = (r, some (pg ++ [y])) := by rw [← hR, zTx_e ey (by rw [← hr]; exact h44), ← hr]
        refine zAloadN d_X12_readText_64 rfl rfl (q := 65) rfl ?_
        refine zGetI d_X12_readText_65 ff_X12_194 sh_64 (by decide) (q := 68) rfl ?_
        rw [h23]
        refine zIf_ge d_X12_readText_68 (tgt := 86) (q := 71) (by decide) rfl (fun h => absurd h (by decide)) (fun h68 => ?_)
        refine zAloadN d_X12_readText_71 rfl rfl (q := 72) rfl ?_
        refine zGetI d_X12_readText_72 ff_X12_191 sh_64 (by decide) (q := 75) rfl ?_
        refine zAloadN d_X12_readText_75 rfl rfl (q := 76) rfl ?_
        refine zGetI d_X12_readText_76 ff_X12_188 sh_64 (by decide) (q := 79) rfl ?_
        rw [h22, j21]
        refine zIcmp_ge d_X12_readText_79 (tgt := 86) (q := 82) (by decide) rfl (fun h79 => ?_) (fun h79 => ?_)
        · have hge := nle h79
          have er : r = m := by omega
          have eF : zFa T m = -1 := by unfold zFa; rw [eT]; exact if_pos er
          rw [er] at eT
          have key := good eT er eF
          refine zSub [0, 1] rfl ?_
          exact key
        · have hlt := nnle h79
          refine zAloadN d_X12_readText_82 rfl rfl (q := 83) rfl ?_
          refine zCallVV d_X12_readText_83 ml_X12_203 k_X12_wrong ki_X12_wrong ks_X12_wrong (sp_X12_wrong (d := d - 1) (by omega) h23) rfl rfl sh_64 (by decide) rfl (by decide) (Nat.le_of_ble_eq_true rfl) (by decide) (by omega) zns100 (q := 86) rfl (fun w' hw' => ?_)
          subst hw'
          have key := told (zup J 64 (zup (J 64) 23 (J 64 22))) r ⟨yFrL_64 f0 (by decide), h22, r1⟩ (by unfold zFa; rw [eT]; exact if_neg (by omega))
          refine zSub [0, 1] rfl ?_
          exact key
      refine zAloadN d_X12_readText_31 rfl rfl (q := 32) rfl ?_
      refine zGetI d_X12_readText_32 ff_X12_194 sh_64 (by decide) (q := 35) rfl ?_
      rw [h23]
      refine zIf_ge d_X12_readText_35 (tgt := 64) (q := 38) (by decide) rfl (fun h => absurd h (by decide)) (fun h35 => ?_)
      refine zAloadN d_X12_readText_38 rfl rfl (q := 39) rfl ?_
      refine zCallVP d_X12_readText_39 ml_X12_206 k_X12_look ki_X12_look ks_X12_look (sp_X12_look (d := d - 1) (by omega) jT j21 hm h22 (by omega)) rfl rfl sh_64 (by decide) rfl (by decide) (Nat.le_of_ble_eq_true rfl) (by decide) (by omega) zns100 (q := 42) rfl ?_
      refine zBipush d_X12_readText_42 (v := 59) bc_59 (q := 44) rfl ?_
      refine zIcmp_ne d_X12_readText_44 (tgt := 64) (q := 47) (by decide) rfl (fun h44 => ?_) (fun h44 => ?_)
      · skip
        refine zSub [0, 1] rfl ?_
        exact last h44
      · have e59 : zAt T m r = 59 := h44
        have hlt : r < m := zAt_in (by rw [e59]; decide)
        rw [zTx_s ey (by rw [← hr]; exact e59), ← hr] at hR
        refine zAloadN d_X12_readText_47 rfl rfl (q := 48) rfl ?_
        refine zDup d_X12_readText_48 rfl (q := 49) rfl ?_
        refine zGetI d_X12_readText_49 ff_X12_191 sh_64 (by decide) (q := 52) rfl ?_
        refine zIconst d_X12_readText_52 (v := 1) ic_1 (q := 53) rfl ?_
        refine zIadd d_X12_readText_53 (q := 54) rfl ?_
        rw [h22, nI_1]
        refine zPutI d_X12_readText_54 ff_X12_191 rfl rfl rfl sh_64 (by decide) (q := 57) rfl ?_
        refine zAloadN d_X12_readText_57 rfl rfl (q := 58) rfl ?_
        refine zCallVV d_X12_readText_58 ml_X12_242 k_X12_line ki_X12_line ks_X12_line (sp_X12_line (I := I) (T := T) (m := m) (d := d - 1) hT h21 hm (by omega) (p := r + 1) (pg := pg ++ [y]) ⟨yFrL_64 f0 (by decide), ⟨rfl, h23, h24, h25⟩, by omega, hlt, h82, hls⟩ (by omega)) rfl rfl sh_64 (by decide) rfl (by decide) (Nat.le_of_ble_eq_true rfl) (by decide) (by omega) zns100 (q := 61) rfl (fun w' hw' => ?_)
        obtain ⟨J', rfl, hJ'⟩ := hw'
        refine zGoto d_X12_readText_61 (q := 31) (by decide) ?_
        refine zSub [0, 1] rfl ?_
        exact ih J' (r + 1) (pg ++ [y]) (by omega) (by omega) hlt hpg2 hR hJ'
    · have eF : zFa T m = nI r := by
        rcases ez : (zLn T m p).2 with _ | y
        · have eT : zTR T m = (r, none) := by rw [← hR, zTx_n ez, ← hr]
          unfold zFa; rw [eT]
        · have dg := hb.resolve_left (by rw [ez]; exact fun z => by cases z)
          have eT : zTR T m = (r, some (pg ++ [y])) := by rw [← hR, zTx_e ez (by rw [← hr]; exact fun z => by have d1 := dg.2; rw [z] at d1; exact absurd d1 (by decide)), ← hr]
          unfold zFa; rw [eT]; exact if_neg (fun z => by have d2 := zAt_in (T := T) (m := m) (p := r) (fun z => by have d1 := dg.1; rw [z] at d1; exact absurd d1 (by decide)); omega)
      have g0 : ¬ nI r < 0 := nI_pos (by omega)
      refine zAloadN d_X12_readText_31 rfl rfl (q := 32) rfl ?_
      refine zGetI d_X12_readText_32 ff_X12_194 sh_64 (by decide) (q := 35) rfl ?_
      rw [hb2.2.1]
      refine zIf_ge d_X12_readText_35 (tgt := 64) (q := 38) (by decide) rfl (fun h35 => ?_) (fun h => absurd (Int32.not_lt.mp g0) h)
      refine zAloadN d_X12_readText_64 rfl rfl (q := 65) rfl ?_
      refine zGetI d_X12_readText_65 ff_X12_194 sh_64 (by decide) (q := 68) rfl ?_
      rw [hb2.2.1]
      refine zIf_ge d_X12_readText_68 (tgt := 86) (q := 71) (by decide) rfl (fun h68 => ?_) (fun h => absurd (Int32.not_lt.mp g0) h)
      refine zSub [0, 1] rfl ?_
      exact told J r hb2 eF
  refine zSp_of (lv := [(0, .ref 64), (1, .int 0)]) k_X12_readText rfl (Nat.le_of_ble_eq_true rfl) ?_
  refine zAloadN d_X12_readText_0 rfl rfl (q := 1) rfl ?_
  refine zIconst d_X12_readText_1 (v := 0) ic_0 (q := 2) rfl ?_
  refine zPutI d_X12_readText_2 ff_X12_191 rfl rfl rfl sh_64 (by decide) (q := 5) rfl ?_
  refine zAloadN d_X12_readText_5 rfl rfl (q := 6) rfl ?_
  refine zIconst d_X12_readText_6 (v := -1) ic_m1 (q := 7) rfl ?_
  refine zPutI d_X12_readText_7 ff_X12_194 rfl rfl rfl sh_64 (by decide) (q := 10) rfl ?_
  refine zAloadN d_X12_readText_10 rfl rfl (q := 11) rfl ?_
  refine zIconst d_X12_readText_11 (v := 0) ic_0 (q := 12) rfl ?_
  refine zPutI d_X12_readText_12 ff_X12_200 rfl rfl rfl sh_64 (by decide) (q := 15) rfl ?_
  refine zAloadN d_X12_readText_15 rfl rfl (q := 16) rfl ?_
  refine zIconst d_X12_readText_16 (v := 0) ic_0 (q := 17) rfl ?_
  refine zPutI d_X12_readText_17 ff_X12_197 rfl rfl rfl sh_64 (by decide) (q := 20) rfl ?_
  refine zAloadN d_X12_readText_20 rfl rfl (q := 21) rfl ?_
  refine zGetR d_X12_readText_21 ff_X12_64 sh_64 (by decide) r_64_28 (q := 24) rfl ?_
  refine zIconst d_X12_readText_24 (v := 1) ic_1 (q := 25) rfl ?_
  refine zIconst d_X12_readText_25 (v := 0) ic_0 (q := 26) rfl ?_
  refine zIast d_X12_readText_26 sh_82 (by decide) (j := 1) rfl (by decide) (q := 27) rfl ?_
  refine zAloadN d_X12_readText_27 rfl rfl (q := 28) rfl ?_
  refine zCallVV d_X12_readText_28 ml_X12_242 k_X12_line ki_X12_line ks_X12_line (sp_X12_line (I := I) (T := T) (m := m) (d := d - 1) hT h21 hm (by omega) (p := 0) (pg := []) ⟨yFrL_82 (yFrL_64 (yFrL_64 (yFrL_64 (yFrL_64 yFrL_refl (by decide)) (by decide)) (by decide)) (by decide)), ⟨rfl, rfl, rfl, rfl⟩, Nat.le_refl _, Nat.zero_le _, rfl, trivial⟩ (Nat.le_refl _)) rfl rfl sh_64 (by decide) rfl (by decide) (Nat.le_of_ble_eq_true rfl) (by decide) (by omega) zns100 (q := 31) rfl (fun w' hw' => ?_)
  obtain ⟨J', rfl, hJ'⟩ := hw'
  refine zSub [0, 1] rfl ?_
  exact loop 120 J' 0 [] rfl (Nat.le_refl _) (Nat.zero_le _) (fun x hx => by cases hx) rfl hJ'
/-- a text's fault, or a new law -/
theorem sp_X12_law {V : Nat → Nat → Int32} {K : Nat → Nat → Int64} (hD : zMd I L V K pg) (h29 : V 29 1 = nI m) (hm : m ≤ 120) {d : Nat} (hd : 49 ≤ d) : zSp g l d 100 m_X12_law [.ref 64] (zU I L fs) (zX (fun x w =>
    (0 ≤ zFa (I 79) m ∧ x = -100 - zFa (I 79) m ∧ ∃ J, w = zU J L fs ∧ zFrm I J ∧ zMd J L (zup V 29 (zup (V 29) 1 0)) K pg) ∨
    (zFa (I 79) m = -1 ∧ x = 1 ∧ ∃ ls, zTR (I 79) m = (m, some ls) ∧ ∃ J, w = zU J L fs ∧ zFrm I J ∧ zMd J L (zup V 29 (zup (V 29) 1 0)) K (some ls)))) := by
  have new : ∀ J pg', J 64 21 = 0 → (∀ a, a ≠ 64 → (a < 80 ∨ 84 < a) → J a = I a) → (∀ k, k ≠ 33 → (k < 21 ∨ 25 < k) → J 64 k = I 64 k) → zMl J pg' → zMd J L (zup V 29 (zup (V 29) 1 0)) K pg' := by
    intro J pg' j21 jf jk jl
    have v : ∀ a, a ≠ 29 → (zup V 29 (zup (V 29) 1 0)) a = V a := fun a ha => zup_ne ha
    exact ⟨zMs_ex ⟨jk _ (by decide) (by decide), jk _ (by decide) (by decide), jk _ (by decide) (by decide)⟩ (fun a ha => jf a (by omega) (by omega)) (fun a ha => v a (by omega)) hD.1,
      ⟨j21, (jf 79 (by decide) (by decide)).trans hD.2.1.2⟩,
      zMc_ex ⟨jk _ (by decide) (by decide), jk _ (by decide) (by decide)⟩ (fun a ha => jf a (by omega) (by omega)) (fun a ha => v a (by omega)) hD.2.2.1,
      zMi_ex (fun k hk => jk k (by omega) (by omega)) (jf _ (by decide) (by decide)) ⟨v _ (by decide), v _ (by decide)⟩ hD.2.2.2.1,
      zMa_ex ⟨jk _ (by decide) (by decide), jk _ (by decide) (by decide)⟩ ⟨jf _ (by decide) (by decide), jf _ (by decide) (by decide)⟩ ⟨v _ (by decide), v _ (by decide), v _ (by decide)⟩ hD.2.2.2.2.1,
      zMh_ex ⟨jf _ (by decide) (by decide), jf _ (by decide) (by decide)⟩ (fun a ha => v a (by omega)) hD.2.2.2.2.2.1, jl⟩
  refine zSp_of (lv := [(0, .ref 64)]) k_X12_law rfl (Nat.le_of_ble_eq_true rfl) ?_
  refine zAloadN d_X12_law_0 rfl rfl (q := 1) rfl ?_
  refine zIconst d_X12_law_1 (v := 0) ic_0 (q := 2) rfl ?_
  refine zCallVX d_X12_law_2 ml_X12_251 k_X12_readText ki_X12_readText ks_X12_readText (sp_X12_readText (T := I 79) (m := m) (d := d - 1) rfl (hD.2.1.1.trans h29) hm (by omega)) rfl rfl sh_64 (by decide) rfl (by decide) (Nat.le_of_ble_eq_true rfl) (by decide) (by omega) zns100 (q := 5) rfl (fun x w' hw' => ?_)
  obtain ⟨J, rfl, hx, j21, jf, jk, hr⟩ := hw'
  refine zIstoreN d_X12_law_5 rfl (by decide) rfl (q := 6) rfl ?_
  refine zIloadN d_X12_law_6 rfl rfl (q := 7) rfl ?_
  refine zIf_lt d_X12_law_7 (tgt := 15) (q := 10) (by decide) rfl (fun h7 => ?_) (fun h7 => ?_)
  · have hr := hr.resolve_left (fun q => by rw [hx] at h7; exact absurd q.1 (Int32.not_le.mpr h7))
    obtain ⟨hF, ls, hR, k1, k2, k3, k4, k5⟩ := hr
    refine zAloadN d_X12_law_15 rfl rfl (q := 16) rfl ?_
    refine zIconst d_X12_law_16 (v := 1) ic_1 (q := 17) rfl ?_
    refine zPutI d_X12_law_17 ff_X12_254 rfl rfl rfl sh_64 (by decide) (q := 20) rfl ?_
    refine zIconst d_X12_law_20 (v := 1) ic_1 (q := 21) rfl ?_
    refine zIret d_X12_law_21 rfl rfl rfl ?_
    refine ⟨_, rfl, Or.inr ⟨hF, rfl, ls, hR, _, rfl, fun a ha => by rw [zup_ne (by omega)]; exact jf a (by omega) (by omega), new _ (some ls) j21 (fun a q1 q2 => by rw [zup_ne q1]; exact jf a q1 q2) (fun k q1 q2 => by rw [zup_eq, zup_ne q1]; exact jk k q2) ⟨rfl, k1, k2, k3, k4, k5⟩⟩⟩
  · have c := Int32.not_lt.mp h7
    have hr := hr.resolve_right (fun q => by rw [hx, q.1] at c; exact absurd c (by decide))
    refine zBipush d_X12_law_10 (v := -100) bc_m100 (q := 12) rfl ?_
    refine zIloadN d_X12_law_12 rfl rfl (q := 13) rfl ?_
    refine zIsub d_X12_law_13 (q := 14) rfl ?_
    refine zIret d_X12_law_14 rfl rfl rfl ?_
    refine ⟨_, rfl, Or.inl ⟨hr.1, by rw [hx], J, rfl, fun a ha => jf a (by omega) (by omega), new J pg j21 jf (fun k _ q => jk k q) ?_⟩⟩
    exact zLs_low hr.2 (jk 33 (by decide)) (zMl_ex (I := I) rfl (fun a ha => zup_ne (show a ≠ 64 by omega)) hD.2.2.2.2.2.2)
end S72

