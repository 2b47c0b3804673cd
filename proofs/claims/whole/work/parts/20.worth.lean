theorem d_X6_worth_0 : decode (zmc m_X6_worth) 0 = .ok (.iconst 0, 1) := by decide +kernel
theorem d_X6_worth_1 : decode (zmc m_X6_worth) 1 = .ok (.istore_n 1, 1) := by decide +kernel
theorem d_X6_worth_2 : decode (zmc m_X6_worth) 2 = .ok (.iconst 0, 1) := by decide +kernel
theorem d_X6_worth_3 : decode (zmc m_X6_worth) 3 = .ok (.istore_n 2, 1) := by decide +kernel
theorem d_X6_worth_4 : decode (zmc m_X6_worth) 4 = .ok (.iload_n 2, 1) := by decide +kernel
theorem d_X6_worth_5 : decode (zmc m_X6_worth) 5 = .ok (.aload_n 0, 1) := by decide +kernel
theorem d_X6_worth_6 : decode (zmc m_X6_worth) 6 = .ok (.getfield 22, 3) := by decide +kernel
theorem d_X6_worth_9 : decode (zmc m_X6_worth) 9 = .ok (.if_icmp .ge 211, 3) := by decide +kernel
theorem d_X6_worth_12 : decode (zmc m_X6_worth) 12 = .ok (.aload_n 0, 1) := by decide +kernel
theorem d_X6_worth_13 : decode (zmc m_X6_worth) 13 = .ok (.getfield 9, 3) := by decide +kernel
theorem d_X6_worth_16 : decode (zmc m_X6_worth) 16 = .ok (.iload_n 2, 1) := by decide +kernel
theorem d_X6_worth_17 : decode (zmc m_X6_worth) 17 = .ok (.iaload, 1) := by decide +kernel
theorem d_X6_worth_18 : decode (zmc m_X6_worth) 18 = .ok (.istore_n 3, 1) := by decide +kernel
theorem d_X6_worth_19 : decode (zmc m_X6_worth) 19 = .ok (.iload_n 3, 1) := by decide +kernel
theorem d_X6_worth_20 : decode (zmc m_X6_worth) 20 = .ok (.ifCond .eq 8, 3) := by decide +kernel
theorem d_X6_worth_23 : decode (zmc m_X6_worth) 23 = .ok (.iload_n 3, 1) := by decide +kernel
theorem d_X6_worth_24 : decode (zmc m_X6_worth) 24 = .ok (.iconst 1, 1) := by decide +kernel
theorem d_X6_worth_25 : decode (zmc m_X6_worth) 25 = .ok (.if_icmp .ne 47, 3) := by decide +kernel
theorem d_X6_worth_28 : decode (zmc m_X6_worth) 28 = .ok (.iload_n 1, 1) := by decide +kernel
theorem d_X6_worth_29 : decode (zmc m_X6_worth) 29 = .ok (.sipush 128, 3) := by decide +kernel
theorem d_X6_worth_32 : decode (zmc m_X6_worth) 32 = .ok (.if_icmp .lt 5, 3) := by decide +kernel
theorem d_X6_worth_35 : decode (zmc m_X6_worth) 35 = .ok (.iconst 0, 1) := by decide +kernel
theorem d_X6_worth_36 : decode (zmc m_X6_worth) 36 = .ok (.ireturn, 1) := by decide +kernel
theorem d_X6_worth_37 : decode (zmc m_X6_worth) 37 = .ok (.aload_n 0, 1) := by decide +kernel
theorem d_X6_worth_38 : decode (zmc m_X6_worth) 38 = .ok (.getfield 16, 3) := by decide +kernel
theorem d_X6_worth_41 : decode (zmc m_X6_worth) 41 = .ok (.iload_n 1, 1) := by decide +kernel
theorem d_X6_worth_42 : decode (zmc m_X6_worth) 42 = .ok (.iload_n 3, 1) := by decide +kernel
theorem d_X6_worth_43 : decode (zmc m_X6_worth) 43 = .ok (.ifCond .ne 12, 3) := by decide +kernel
theorem d_X6_worth_46 : decode (zmc m_X6_worth) 46 = .ok (.aload_n 0, 1) := by decide +kernel
theorem d_X6_worth_47 : decode (zmc m_X6_worth) 47 = .ok (.getfield 13, 3) := by decide +kernel
theorem d_X6_worth_50 : decode (zmc m_X6_worth) 50 = .ok (.iload_n 2, 1) := by decide +kernel
theorem d_X6_worth_51 : decode (zmc m_X6_worth) 51 = .ok (.iaload, 1) := by decide +kernel
theorem d_X6_worth_52 : decode (zmc m_X6_worth) 52 = .ok (.goto 13, 3) := by decide +kernel
theorem d_X6_worth_55 : decode (zmc m_X6_worth) 55 = .ok (.aload_n 0, 1) := by decide +kernel
theorem d_X6_worth_56 : decode (zmc m_X6_worth) 56 = .ok (.aload_n 0, 1) := by decide +kernel
theorem d_X6_worth_57 : decode (zmc m_X6_worth) 57 = .ok (.getfield 13, 3) := by decide +kernel
theorem d_X6_worth_60 : decode (zmc m_X6_worth) 60 = .ok (.iload_n 2, 1) := by decide +kernel
theorem d_X6_worth_61 : decode (zmc m_X6_worth) 61 = .ok (.iaload, 1) := by decide +kernel
theorem d_X6_worth_62 : decode (zmc m_X6_worth) 62 = .ok (.invokevirtual 47, 3) := by decide +kernel
theorem d_X6_worth_65 : decode (zmc m_X6_worth) 65 = .ok (.iastore, 1) := by decide +kernel
theorem d_X6_worth_66 : decode (zmc m_X6_worth) 66 = .ok (.iinc 1 1, 3) := by decide +kernel
theorem d_X6_worth_69 : decode (zmc m_X6_worth) 69 = .ok (.goto 145, 3) := by decide +kernel
theorem d_X6_worth_72 : decode (zmc m_X6_worth) 72 = .ok (.iload_n 1, 1) := by decide +kernel
theorem d_X6_worth_73 : decode (zmc m_X6_worth) 73 = .ok (.ifCond .gt 5, 3) := by decide +kernel
theorem d_X6_worth_76 : decode (zmc m_X6_worth) 76 = .ok (.iconst 0, 1) := by decide +kernel
theorem d_X6_worth_77 : decode (zmc m_X6_worth) 77 = .ok (.ireturn, 1) := by decide +kernel
theorem d_X6_worth_78 : decode (zmc m_X6_worth) 78 = .ok (.iload_n 3, 1) := by decide +kernel
theorem d_X6_worth_79 : decode (zmc m_X6_worth) 79 = .ok (.iconst 3, 1) := by decide +kernel
theorem d_X6_worth_80 : decode (zmc m_X6_worth) 80 = .ok (.if_icmp .ne 12, 3) := by decide +kernel
theorem d_X6_worth_83 : decode (zmc m_X6_worth) 83 = .ok (.aload_n 0, 1) := by decide +kernel
theorem d_X6_worth_84 : decode (zmc m_X6_worth) 84 = .ok (.getfield 16, 3) := by decide +kernel
theorem d_X6_worth_87 : decode (zmc m_X6_worth) 87 = .ok (.iload_n 1, 1) := by decide +kernel
theorem d_X6_worth_88 : decode (zmc m_X6_worth) 88 = .ok (.iconst 1, 1) := by decide +kernel
theorem d_X6_worth_89 : decode (zmc m_X6_worth) 89 = .ok (.isub, 1) := by decide +kernel
theorem d_X6_worth_90 : decode (zmc m_X6_worth) 90 = .ok (.iaload, 1) := by decide +kernel
theorem d_X6_worth_91 : decode (zmc m_X6_worth) 91 = .ok (.ireturn, 1) := by decide +kernel
theorem d_X6_worth_92 : decode (zmc m_X6_worth) 92 = .ok (.iload_n 3, 1) := by decide +kernel
theorem d_X6_worth_93 : decode (zmc m_X6_worth) 93 = .ok (.iconst 2, 1) := by decide +kernel
theorem d_X6_worth_94 : decode (zmc m_X6_worth) 94 = .ok (.if_icmp .ne 31, 3) := by decide +kernel
theorem d_X6_worth_97 : decode (zmc m_X6_worth) 97 = .ok (.iinc 1 (-1), 3) := by decide +kernel
theorem d_X6_worth_100 : decode (zmc m_X6_worth) 100 = .ok (.aload_n 0, 1) := by decide +kernel
theorem d_X6_worth_101 : decode (zmc m_X6_worth) 101 = .ok (.getfield 16, 3) := by decide +kernel
theorem d_X6_worth_104 : decode (zmc m_X6_worth) 104 = .ok (.iload_n 1, 1) := by decide +kernel
theorem d_X6_worth_105 : decode (zmc m_X6_worth) 105 = .ok (.iaload, 1) := by decide +kernel
theorem d_X6_worth_106 : decode (zmc m_X6_worth) 106 = .ok (.ifCond .ne 108, 3) := by decide +kernel
theorem d_X6_worth_109 : decode (zmc m_X6_worth) 109 = .ok (.iload_n 2, 1) := by decide +kernel
theorem d_X6_worth_110 : decode (zmc m_X6_worth) 110 = .ok (.aload_n 0, 1) := by decide +kernel
theorem d_X6_worth_111 : decode (zmc m_X6_worth) 111 = .ok (.getfield 13, 3) := by decide +kernel
theorem d_X6_worth_114 : decode (zmc m_X6_worth) 114 = .ok (.iload_n 2, 1) := by decide +kernel
theorem d_X6_worth_115 : decode (zmc m_X6_worth) 115 = .ok (.iaload, 1) := by decide +kernel
theorem d_X6_worth_116 : decode (zmc m_X6_worth) 116 = .ok (.iconst 1, 1) := by decide +kernel
theorem d_X6_worth_117 : decode (zmc m_X6_worth) 117 = .ok (.isub, 1) := by decide +kernel
theorem d_X6_worth_118 : decode (zmc m_X6_worth) 118 = .ok (.invokestatic 44, 3) := by decide +kernel
theorem d_X6_worth_121 : decode (zmc m_X6_worth) 121 = .ok (.istore_n 2, 1) := by decide +kernel
theorem d_X6_worth_122 : decode (zmc m_X6_worth) 122 = .ok (.goto 92, 3) := by decide +kernel
theorem d_X6_worth_125 : decode (zmc m_X6_worth) 125 = .ok (.iload_n 3, 1) := by decide +kernel
theorem d_X6_worth_126 : decode (zmc m_X6_worth) 126 = .ok (.iconst 4, 1) := by decide +kernel
theorem d_X6_worth_127 : decode (zmc m_X6_worth) 127 = .ok (.if_icmp .eq 8, 3) := by decide +kernel
theorem d_X6_worth_130 : decode (zmc m_X6_worth) 130 = .ok (.iload_n 3, 1) := by decide +kernel
theorem d_X6_worth_131 : decode (zmc m_X6_worth) 131 = .ok (.iconst 5, 1) := by decide +kernel
theorem d_X6_worth_132 : decode (zmc m_X6_worth) 132 = .ok (.if_icmp .ne 48, 3) := by decide +kernel
theorem d_X6_worth_135 : decode (zmc m_X6_worth) 135 = .ok (.aload_n 0, 1) := by decide +kernel
theorem d_X6_worth_136 : decode (zmc m_X6_worth) 136 = .ok (.getfield 16, 3) := by decide +kernel
theorem d_X6_worth_139 : decode (zmc m_X6_worth) 139 = .ok (.iload_n 1, 1) := by decide +kernel
theorem d_X6_worth_140 : decode (zmc m_X6_worth) 140 = .ok (.iconst 1, 1) := by decide +kernel
theorem d_X6_worth_141 : decode (zmc m_X6_worth) 141 = .ok (.isub, 1) := by decide +kernel
theorem d_X6_worth_142 : decode (zmc m_X6_worth) 142 = .ok (.iaload, 1) := by decide +kernel
theorem d_X6_worth_143 : decode (zmc m_X6_worth) 143 = .ok (.istore 4, 2) := by decide +kernel
theorem d_X6_worth_145 : decode (zmc m_X6_worth) 145 = .ok (.aload_n 0, 1) := by decide +kernel
theorem d_X6_worth_146 : decode (zmc m_X6_worth) 146 = .ok (.getfield 16, 3) := by decide +kernel
theorem d_X6_worth_149 : decode (zmc m_X6_worth) 149 = .ok (.iload_n 1, 1) := by decide +kernel
theorem d_X6_worth_150 : decode (zmc m_X6_worth) 150 = .ok (.iconst 1, 1) := by decide +kernel
theorem d_X6_worth_151 : decode (zmc m_X6_worth) 151 = .ok (.isub, 1) := by decide +kernel
theorem d_X6_worth_152 : decode (zmc m_X6_worth) 152 = .ok (.iload_n 3, 1) := by decide +kernel
theorem d_X6_worth_153 : decode (zmc m_X6_worth) 153 = .ok (.iconst 5, 1) := by decide +kernel
theorem d_X6_worth_154 : decode (zmc m_X6_worth) 154 = .ok (.if_icmp .ne 9, 3) := by decide +kernel
theorem d_X6_worth_157 : decode (zmc m_X6_worth) 157 = .ok (.iload 4, 2) := by decide +kernel
theorem d_X6_worth_159 : decode (zmc m_X6_worth) 159 = .ok (.ineg, 1) := by decide +kernel
theorem d_X6_worth_160 : decode (zmc m_X6_worth) 160 = .ok (.goto 16, 3) := by decide +kernel
theorem d_X6_worth_163 : decode (zmc m_X6_worth) 163 = .ok (.iload 4, 2) := by decide +kernel
theorem d_X6_worth_165 : decode (zmc m_X6_worth) 165 = .ok (.ifCond .ne 7, 3) := by decide +kernel
theorem d_X6_worth_168 : decode (zmc m_X6_worth) 168 = .ok (.iconst 1, 1) := by decide +kernel
theorem d_X6_worth_169 : decode (zmc m_X6_worth) 169 = .ok (.goto 4, 3) := by decide +kernel
theorem d_X6_worth_172 : decode (zmc m_X6_worth) 172 = .ok (.iconst 0, 1) := by decide +kernel
theorem d_X6_worth_173 : decode (zmc m_X6_worth) 173 = .ok (.invokestatic 51, 3) := by decide +kernel
theorem d_X6_worth_176 : decode (zmc m_X6_worth) 176 = .ok (.iastore, 1) := by decide +kernel
theorem d_X6_worth_177 : decode (zmc m_X6_worth) 177 = .ok (.goto 37, 3) := by decide +kernel
theorem d_X6_worth_180 : decode (zmc m_X6_worth) 180 = .ok (.iload_n 1, 1) := by decide +kernel
theorem d_X6_worth_181 : decode (zmc m_X6_worth) 181 = .ok (.iconst 1, 1) := by decide +kernel
theorem d_X6_worth_182 : decode (zmc m_X6_worth) 182 = .ok (.if_icmp .le 32, 3) := by decide +kernel
theorem d_X6_worth_185 : decode (zmc m_X6_worth) 185 = .ok (.iinc 1 (-1), 3) := by decide +kernel
theorem d_X6_worth_188 : decode (zmc m_X6_worth) 188 = .ok (.aload_n 0, 1) := by decide +kernel
theorem d_X6_worth_189 : decode (zmc m_X6_worth) 189 = .ok (.getfield 16, 3) := by decide +kernel
theorem d_X6_worth_192 : decode (zmc m_X6_worth) 192 = .ok (.iload_n 1, 1) := by decide +kernel
theorem d_X6_worth_193 : decode (zmc m_X6_worth) 193 = .ok (.iconst 1, 1) := by decide +kernel
theorem d_X6_worth_194 : decode (zmc m_X6_worth) 194 = .ok (.isub, 1) := by decide +kernel
theorem d_X6_worth_195 : decode (zmc m_X6_worth) 195 = .ok (.iload_n 3, 1) := by decide +kernel
theorem d_X6_worth_196 : decode (zmc m_X6_worth) 196 = .ok (.aload_n 0, 1) := by decide +kernel
theorem d_X6_worth_197 : decode (zmc m_X6_worth) 197 = .ok (.getfield 16, 3) := by decide +kernel
theorem d_X6_worth_200 : decode (zmc m_X6_worth) 200 = .ok (.iload_n 1, 1) := by decide +kernel
theorem d_X6_worth_201 : decode (zmc m_X6_worth) 201 = .ok (.iconst 1, 1) := by decide +kernel
theorem d_X6_worth_202 : decode (zmc m_X6_worth) 202 = .ok (.isub, 1) := by decide +kernel
theorem d_X6_worth_203 : decode (zmc m_X6_worth) 203 = .ok (.iaload, 1) := by decide +kernel
theorem d_X6_worth_204 : decode (zmc m_X6_worth) 204 = .ok (.aload_n 0, 1) := by decide +kernel
theorem d_X6_worth_205 : decode (zmc m_X6_worth) 205 = .ok (.getfield 16, 3) := by decide +kernel
theorem d_X6_worth_208 : decode (zmc m_X6_worth) 208 = .ok (.iload_n 1, 1) := by decide +kernel
theorem d_X6_worth_209 : decode (zmc m_X6_worth) 209 = .ok (.iaload, 1) := by decide +kernel
theorem d_X6_worth_210 : decode (zmc m_X6_worth) 210 = .ok (.invokestatic 55, 3) := by decide +kernel
theorem d_X6_worth_213 : decode (zmc m_X6_worth) 213 = .ok (.iastore, 1) := by decide +kernel
theorem d_X6_worth_214 : decode (zmc m_X6_worth) 214 = .ok (.iinc 2 1, 3) := by decide +kernel
theorem d_X6_worth_217 : decode (zmc m_X6_worth) 217 = .ok (.goto (-213), 3) := by decide +kernel
theorem d_X6_worth_220 : decode (zmc m_X6_worth) 220 = .ok (.iconst 0, 1) := by decide +kernel
theorem d_X6_worth_221 : decode (zmc m_X6_worth) 221 = .ok (.ireturn, 1) := by decide +kernel
/-! A LAW WORKED OUT -/
theorem zlen_stp {env : Nat → Int32} {c : zSt1} {s : List Int32} : (c.1 = 0 → zStp env c s = c.2 :: s) ∧ (c.1 = 1 → zStp env c s = env c.2.toNatClampNeg :: s) := by
  match s with
  | [] => exact ⟨fun h => by simp [zStp, h], fun h => by simp [zStp, h]⟩
  | [x] => exact ⟨fun h => by simp [zStp, h], fun h => by simp [zStp, h]⟩
  | y :: x :: r => exact ⟨fun h => by simp [zStp, h], fun h => by simp [zStp, h]⟩
theorem zstp4 {env : Nat → Int32} {c : zSt1} {x : Int32} {r : List Int32} (h : c.1 = 4) : zStp env c (x :: r) = (if x = 0 then 1 else 0) :: r := by
  match r with
  | [] => simp [zStp, h]
  | y :: r => simp [zStp, h]
theorem zstp5 {env : Nat → Int32} {c : zSt1} {x : Int32} {r : List Int32} (h : c.1 = 5) : zStp env c (x :: r) = -x :: r := by
  match r with
  | [] => simp [zStp, h]
  | y :: r => simp [zStp, h]
theorem zstpJ {env : Nat → Int32} {c : zSt1} {x y : Int32} {r : List Int32} (h : ¬ c.1 = 0 ∧ ¬ c.1 = 1 ∧ ¬ c.1 = 2 ∧ ¬ c.1 = 3 ∧ ¬ c.1 = 4 ∧ ¬ c.1 = 5) : zStp env c (y :: x :: r) = zJn c.1 x y :: r := by
  simp [zStp, h.1, h.2.1, h.2.2.2.2.1, h.2.2.2.2.2]
theorem zops {t : Int32} (h : t ∈ ([37, 38, 42, 43, 45, 47, 60, 61, 62, 124] : List Int32)) : ¬ t = 0 ∧ ¬ t = 1 ∧ ¬ t = 2 ∧ ¬ t = 3 ∧ ¬ t = 4 ∧ ¬ t = 5 := by
  simp only [List.mem_cons, List.not_mem_nil, or_false] at h
  rcases h with rfl | rfl | rfl | rfl | rfl | rfl | rfl | rfl | rfl | rfl <;> decide
section S20
variable {g : zG} {l : Launch} {d : Nat} {I : Nat → Nat → Int32} {L : Nat → Nat → Int64} {fs : Nat × Nat × Option Nat} {ns nt nh h : Nat} {Q : Option Value → zW → Prop}
theorem zstep20 (hd : 3 ≤ d) (hw : zLwf h) {sz : Nat} (hsz : I h 4 = nI sz) (h128 : sz ≤ 128) {p : Nat} {c : zSt1} {st : List Int32} {F : Nat → Int32} (hp : p < sz) (hS : I (h + 1) p = c.1) (hW : I (h + 2) p = c.2) (hF : zStk F st) (hst : st.length ≤ p)
    (ok : c.1 = 0 ∨ (c.1 = 1 ∧ ∃ k : Nat, k < 6 ∧ c.2 = nI k) ∨ ((c.1 = 4 ∨ c.1 = 5) ∧ 1 ≤ st.length) ∨ (c.1 ∈ ([37, 38, 42, 43, 45, 47, 60, 61, 62, 124] : List Int32) ∧ 2 ≤ st.length))
    (K : ∀ F', zStk F' (zStp (I (h + 4)) c st) → zA g l d m_X6_worth (zup I (h + 3) F') L fs 4 [(2, .int (nI (p + 1))), (1, .int (nI (zStp (I (h + 4)) c st).length)), (0, .ref h)] Q) :
    zA g l d m_X6_worth (zup I (h + 3) F) L fs 4 [(2, .int (nI p)), (1, .int (nI st.length)), (0, .ref h)] Q := by
  have hh := hw.2.2.2.2.2.2.1
  have e0 : ∀ F, (zup I (h + 3) F) h 4 = nI sz := fun F => by rw [zup_ne (by omega)]; exact hsz
  have e1 : ∀ F, (zup I (h + 3) F) (h + 1) = I (h + 1) := fun F => zup_ne (by omega)
  have e2 : ∀ F, (zup I (h + 3) F) (h + 2) = I (h + 2) := fun F => zup_ne (by omega)
  have e4 : ∀ F, (zup I (h + 3) F) (h + 4) = I (h + 4) := fun F => zup_ne (by omega)
  have hlt : ¬ (zup I (h + 3) F) h 4 ≤ nI p := by rw [e0]; exact nI_ge hp (by omega)
  rcases ok with h0 | ⟨h1, k, hk, hk2⟩ | ⟨h45, hl⟩ | ⟨hop, hl⟩
  · have eS := (zlen_stp (env := I (h + 4)) (c := c) (s := st)).1 h0
    rw [eS] at K
    refine zIloadN d_X6_worth_4 rfl rfl (q := 5) rfl ?_
    refine zAloadN d_X6_worth_5 rfl rfl (q := 6) rfl ?_
    refine zGetI d_X6_worth_6 ff_X6_22 hw.1 (zlt4 hw) (q := 9) rfl ?_
    refine zIcmp_ge d_X6_worth_9 (tgt := 220) (q := 12) (by decide) rfl (fun h => absurd h hlt) (fun h9 => ?_)
    refine zAloadN d_X6_worth_12 rfl rfl (q := 13) rfl ?_
    refine zGetR d_X6_worth_13 ff_X6_9 hw.1 (zlt4 hw) (zlw0 hw) (q := 16) rfl ?_
    refine zIloadN d_X6_worth_16 rfl rfl (q := 17) rfl ?_
    refine zIald d_X6_worth_17 hw.2.1 (zlt1 hw) rfl (by omega) (q := 18) rfl ?_
    rw [e1, hS, h0]
    refine zIstoreN d_X6_worth_18 rfl (by decide) rfl (q := 19) rfl ?_
    refine zIloadN d_X6_worth_19 rfl rfl (q := 20) rfl ?_
    refine zIf_eq d_X6_worth_20 (tgt := 28) (q := 23) (by decide) rfl (fun h20 => ?_) (fun h => absurd rfl h)
    refine zIloadN d_X6_worth_28 rfl rfl (q := 29) rfl ?_
    refine zSipush d_X6_worth_29 (v := 128) sc_128 (q := 32) rfl ?_
    refine zIcmp_lt d_X6_worth_32 (tgt := 37) (q := 35) (by decide) rfl (fun h32 => ?_) (fun h => absurd ((nI_ltI (b := 128) (by omega) (by omega)).mpr (by omega)) h)
    refine zAloadN d_X6_worth_37 rfl rfl (q := 38) rfl ?_
    refine zGetR d_X6_worth_38 ff_X6_16 hw.1 (zlt4 hw) (zlw2 hw) (q := 41) rfl ?_
    refine zIloadN d_X6_worth_41 rfl rfl (q := 42) rfl ?_
    refine zIloadN d_X6_worth_42 rfl rfl (q := 43) rfl ?_
    refine zIf_ne d_X6_worth_43 (tgt := 55) (q := 46) (by decide) rfl (fun h => absurd h (by decide)) (fun h43 => ?_)
    refine zAloadN d_X6_worth_46 rfl rfl (q := 47) rfl ?_
    refine zGetR d_X6_worth_47 ff_X6_13 hw.1 (zlt4 hw) (zlw1 hw) (q := 50) rfl ?_
    refine zIloadN d_X6_worth_50 rfl rfl (q := 51) rfl ?_
    refine zIald d_X6_worth_51 hw.2.2.1 (zlt2 hw) rfl (by omega) (q := 52) rfl ?_
    rw [e2, hW]
    refine zGoto d_X6_worth_52 (q := 65) (by decide) ?_
    refine zIast d_X6_worth_65 hw.2.2.2.1 (zlt3 hw) rfl (by omega) (q := 66) rfl ?_
    rw [zup_zup, zup_eq]
    refine zIinc d_X6_worth_66 rfl (zinc _) (by decide) rfl (q := 69) rfl ?_
    refine zGoto d_X6_worth_69 (q := 214) (by decide) ?_
    refine zIinc d_X6_worth_214 rfl (zinc _) (by decide) rfl (q := 217) rfl ?_
    refine zGoto d_X6_worth_217 (q := 4) (by decide) ?_
    refine zSub [0, 1, 3] rfl ?_
    exact K _ ⟨zup_eq, zStk_up hF (Nat.le_refl _)⟩
  · have eS := (zlen_stp (env := I (h + 4)) (c := c) (s := st)).2 h1
    rw [eS] at K
    refine zIloadN d_X6_worth_4 rfl rfl (q := 5) rfl ?_
    refine zAloadN d_X6_worth_5 rfl rfl (q := 6) rfl ?_
    refine zGetI d_X6_worth_6 ff_X6_22 hw.1 (zlt4 hw) (q := 9) rfl ?_
    refine zIcmp_ge d_X6_worth_9 (tgt := 220) (q := 12) (by decide) rfl (fun h => absurd h hlt) (fun h9 => ?_)
    refine zAloadN d_X6_worth_12 rfl rfl (q := 13) rfl ?_
    refine zGetR d_X6_worth_13 ff_X6_9 hw.1 (zlt4 hw) (zlw0 hw) (q := 16) rfl ?_
    refine zIloadN d_X6_worth_16 rfl rfl (q := 17) rfl ?_
    refine zIald d_X6_worth_17 hw.2.1 (zlt1 hw) rfl (by omega) (q := 18) rfl ?_
    rw [e1, hS, h1]
    refine zIstoreN d_X6_worth_18 rfl (by decide) rfl (q := 19) rfl ?_
    refine zIloadN d_X6_worth_19 rfl rfl (q := 20) rfl ?_
    refine zIf_eq d_X6_worth_20 (tgt := 28) (q := 23) (by decide) rfl (fun h => absurd h (by decide)) (fun h20 => ?_)
    refine zIloadN d_X6_worth_23 rfl rfl (q := 24) rfl ?_
    refine zIconst d_X6_worth_24 (v := 1) ic_1 (q := 25) rfl ?_
    refine zIcmp_ne d_X6_worth_25 (tgt := 72) (q := 28) (by decide) rfl (fun h => absurd h (by decide)) (fun h25 => ?_)
    refine zIloadN d_X6_worth_28 rfl rfl (q := 29) rfl ?_
    refine zSipush d_X6_worth_29 (v := 128) sc_128 (q := 32) rfl ?_
    refine zIcmp_lt d_X6_worth_32 (tgt := 37) (q := 35) (by decide) rfl (fun h32 => ?_) (fun h => absurd ((nI_ltI (b := 128) (by omega) (by omega)).mpr (by omega)) h)
    refine zAloadN d_X6_worth_37 rfl rfl (q := 38) rfl ?_
    refine zGetR d_X6_worth_38 ff_X6_16 hw.1 (zlt4 hw) (zlw2 hw) (q := 41) rfl ?_
    refine zIloadN d_X6_worth_41 rfl rfl (q := 42) rfl ?_
    refine zIloadN d_X6_worth_42 rfl rfl (q := 43) rfl ?_
    refine zIf_ne d_X6_worth_43 (tgt := 55) (q := 46) (by decide) rfl (fun h43 => ?_) (fun h => absurd h (by decide))
    refine zAloadN d_X6_worth_55 rfl rfl (q := 56) rfl ?_
    refine zAloadN d_X6_worth_56 rfl rfl (q := 57) rfl ?_
    refine zGetR d_X6_worth_57 ff_X6_13 hw.1 (zlt4 hw) (zlw1 hw) (q := 60) rfl ?_
    refine zIloadN d_X6_worth_60 rfl rfl (q := 61) rfl ?_
    refine zIald d_X6_worth_61 hw.2.2.1 (zlt2 hw) rfl (by omega) (q := 62) rfl ?_
    rw [e2, hW, hk2]
    refine zCallVP d_X6_worth_62 ml_X6_47 k_X6_named ki_X6_named ks_X6_named (sp_X6_named (d := d - 1) (by omega) hw hk) rfl rfl hw.1 (by decide) rfl (zlt4 hw) (Nat.le_of_ble_eq_true rfl) (by decide) (by omega) zns100 (q := 65) rfl ?_
    rw [e4]
    refine zIast d_X6_worth_65 hw.2.2.2.1 (zlt3 hw) rfl (by omega) (q := 66) rfl ?_
    rw [zup_zup, zup_eq]
    refine zIinc d_X6_worth_66 rfl (zinc _) (by decide) rfl (q := 69) rfl ?_
    refine zGoto d_X6_worth_69 (q := 214) (by decide) ?_
    refine zIinc d_X6_worth_214 rfl (zinc _) (by decide) rfl (q := 217) rfl ?_
    refine zGoto d_X6_worth_217 (q := 4) (by decide) ?_
    refine zSub [0, 1, 3] rfl ?_
    exact K _ ⟨by rw [zup_eq, hk2, zcl_n (by omega)], zStk_up hF (Nat.le_refl _)⟩
  · obtain ⟨x, r, rfl⟩ : ∃ x r, st = x :: r := by
      cases st with
      | nil => exact absurd hl (by decide)
      | cons x r => exact ⟨x, r, rfl⟩
    have el : (x :: r).length = r.length + 1 := rfl
    rw [el] at hst hl ⊢
    rcases h45 with h4 | h5
    · rw [zstp4 h4] at K
      refine zIloadN d_X6_worth_4 rfl rfl (q := 5) rfl ?_
      refine zAloadN d_X6_worth_5 rfl rfl (q := 6) rfl ?_
      refine zGetI d_X6_worth_6 ff_X6_22 hw.1 (zlt4 hw) (q := 9) rfl ?_
      refine zIcmp_ge d_X6_worth_9 (tgt := 220) (q := 12) (by decide) rfl (fun h => absurd h hlt) (fun h9 => ?_)
      refine zAloadN d_X6_worth_12 rfl rfl (q := 13) rfl ?_
      refine zGetR d_X6_worth_13 ff_X6_9 hw.1 (zlt4 hw) (zlw0 hw) (q := 16) rfl ?_
      refine zIloadN d_X6_worth_16 rfl rfl (q := 17) rfl ?_
      refine zIald d_X6_worth_17 hw.2.1 (zlt1 hw) rfl (by omega) (q := 18) rfl ?_
      rw [e1, hS, h4]
      refine zIstoreN d_X6_worth_18 rfl (by decide) rfl (q := 19) rfl ?_
      refine zIloadN d_X6_worth_19 rfl rfl (q := 20) rfl ?_
      refine zIf_eq d_X6_worth_20 (tgt := 28) (q := 23) (by decide) rfl (fun h => absurd h (by decide)) (fun h20 => ?_)
      refine zIloadN d_X6_worth_23 rfl rfl (q := 24) rfl ?_
      refine zIconst d_X6_worth_24 (v := 1) ic_1 (q := 25) rfl ?_
      refine zIcmp_ne d_X6_worth_25 (tgt := 72) (q := 28) (by decide) rfl (fun h25 => ?_) (fun h => absurd h (by decide))
      refine zIloadN d_X6_worth_72 rfl rfl (q := 73) rfl ?_
      refine zIf_gt d_X6_worth_73 (tgt := 78) (q := 76) (by decide) rfl (fun h73 => ?_) (fun h => absurd ((nI_ltI (a := 0) (by omega) (by omega)).mpr (by omega)) h)
      refine zIloadN d_X6_worth_78 rfl rfl (q := 79) rfl ?_
      refine zIconst d_X6_worth_79 (v := 3) ic_3 (q := 80) rfl ?_
      refine zIcmp_ne d_X6_worth_80 (tgt := 92) (q := 83) (by decide) rfl (fun h80 => ?_) (fun h => absurd h (by decide))
      refine zIloadN d_X6_worth_92 rfl rfl (q := 93) rfl ?_
      refine zIconst d_X6_worth_93 (v := 2) ic_2 (q := 94) rfl ?_
      refine zIcmp_ne d_X6_worth_94 (tgt := 125) (q := 97) (by decide) rfl (fun h94 => ?_) (fun h => absurd h (by decide))
      refine zIloadN d_X6_worth_125 rfl rfl (q := 126) rfl ?_
      refine zIconst d_X6_worth_126 (v := 4) ic_4 (q := 127) rfl ?_
      refine zIcmp_eq d_X6_worth_127 (tgt := 135) (q := 130) (by decide) rfl (fun h127 => ?_) (fun h => absurd (by decide) h)
      refine zAloadN d_X6_worth_135 rfl rfl (q := 136) rfl ?_
      refine zGetR d_X6_worth_136 ff_X6_16 hw.1 (zlt4 hw) (zlw2 hw) (q := 139) rfl ?_
      refine zIloadN d_X6_worth_139 rfl rfl (q := 140) rfl ?_
      refine zIconst d_X6_worth_140 (v := 1) ic_1 (q := 141) rfl ?_
      refine zIsub d_X6_worth_141 (q := 142) rfl ?_
      refine zIald d_X6_worth_142 hw.2.2.2.1 (zlt3 hw) (nI_pred _) (by omega) (q := 143) rfl ?_
      rw [zup_eq, hF.1]
      refine zIstore d_X6_worth_143 (by decide) rfl (q := 145) rfl ?_
      refine zAloadN d_X6_worth_145 rfl rfl (q := 146) rfl ?_
      refine zGetR d_X6_worth_146 ff_X6_16 hw.1 (zlt4 hw) (zlw2 hw) (q := 149) rfl ?_
      refine zIloadN d_X6_worth_149 rfl rfl (q := 150) rfl ?_
      refine zIconst d_X6_worth_150 (v := 1) ic_1 (q := 151) rfl ?_
      refine zIsub d_X6_worth_151 (q := 152) rfl ?_
      refine zIloadN d_X6_worth_152 rfl rfl (q := 153) rfl ?_
      refine zIconst d_X6_worth_153 (v := 5) ic_5 (q := 154) rfl ?_
      refine zIcmp_ne d_X6_worth_154 (tgt := 163) (q := 157) (by decide) rfl (fun h154 => ?_) (fun h => absurd h (by decide))
      refine zIload d_X6_worth_163 rfl (q := 165) rfl ?_
      refine zIf_ne d_X6_worth_165 (tgt := 172) (q := 168) (by decide) rfl (fun h165 => ?_) (fun h165 => ?_)
      · refine zIconst d_X6_worth_172 (v := 0) ic_0 (q := 173) rfl ?_
        refine zCallSP d_X6_worth_173 ml_X6_51 k_X6_truth kt_X6_truth (sp_truthC (d := d - 1) (by omega) (by decide)) rfl rfl (Nat.le_of_ble_eq_true rfl) (by decide) (by omega) zns100 (q := 176) rfl ?_
        refine zIast d_X6_worth_176 hw.2.2.2.1 (zlt3 hw) (nI_pred _) (by omega) (q := 177) rfl ?_
        rw [zup_zup, zup_eq]
        refine zGoto d_X6_worth_177 (q := 214) (by decide) ?_
        refine zIinc d_X6_worth_214 rfl (zinc _) (by decide) rfl (q := 217) rfl ?_
        refine zGoto d_X6_worth_217 (q := 4) (by decide) ?_
        refine zSub [0, 3, 4] rfl ?_
        first
        | exact K _ ⟨by rw [zup_eq, if_pos h165], zStk_up hF.2 (Nat.le_refl _)⟩
        | exact K _ ⟨by rw [zup_eq, if_neg h165], zStk_up hF.2 (Nat.le_refl _)⟩
      · refine zIconst d_X6_worth_168 (v := 1) ic_1 (q := 169) rfl ?_
        refine zGoto d_X6_worth_169 (q := 173) (by decide) ?_
        refine zCallSP d_X6_worth_173 ml_X6_51 k_X6_truth kt_X6_truth (sp_truthC (d := d - 1) (by omega) (by decide)) rfl rfl (Nat.le_of_ble_eq_true rfl) (by decide) (by omega) zns100 (q := 176) rfl ?_
        refine zIast d_X6_worth_176 hw.2.2.2.1 (zlt3 hw) (nI_pred _) (by omega) (q := 177) rfl ?_
        rw [zup_zup, zup_eq]
        refine zGoto d_X6_worth_177 (q := 214) (by decide) ?_
        refine zIinc d_X6_worth_214 rfl (zinc _) (by decide) rfl (q := 217) rfl ?_
        refine zGoto d_X6_worth_217 (q := 4) (by decide) ?_
        refine zSub [0, 3, 4] rfl ?_
        first
        | exact K _ ⟨by rw [zup_eq, if_pos h165], zStk_up hF.2 (Nat.le_refl _)⟩
        | exact K _ ⟨by rw [zup_eq, if_neg h165], zStk_up hF.2 (Nat.le_refl _)⟩
    · rw [zstp5 h5] at K
      refine zIloadN d_X6_worth_4 rfl rfl (q := 5) rfl ?_
      refine zAloadN d_X6_worth_5 rfl rfl (q := 6) rfl ?_
      refine zGetI d_X6_worth_6 ff_X6_22 hw.1 (zlt4 hw) (q := 9) rfl ?_
      refine zIcmp_ge d_X6_worth_9 (tgt := 220) (q := 12) (by decide) rfl (fun h => absurd h hlt) (fun h9 => ?_)
      refine zAloadN d_X6_worth_12 rfl rfl (q := 13) rfl ?_
      refine zGetR d_X6_worth_13 ff_X6_9 hw.1 (zlt4 hw) (zlw0 hw) (q := 16) rfl ?_
      refine zIloadN d_X6_worth_16 rfl rfl (q := 17) rfl ?_
      refine zIald d_X6_worth_17 hw.2.1 (zlt1 hw) rfl (by omega) (q := 18) rfl ?_
      rw [e1, hS, h5]
      refine zIstoreN d_X6_worth_18 rfl (by decide) rfl (q := 19) rfl ?_
      refine zIloadN d_X6_worth_19 rfl rfl (q := 20) rfl ?_
      refine zIf_eq d_X6_worth_20 (tgt := 28) (q := 23) (by decide) rfl (fun h => absurd h (by decide)) (fun h20 => ?_)
      refine zIloadN d_X6_worth_23 rfl rfl (q := 24) rfl ?_
      refine zIconst d_X6_worth_24 (v := 1) ic_1 (q := 25) rfl ?_
      refine zIcmp_ne d_X6_worth_25 (tgt := 72) (q := 28) (by decide) rfl (fun h25 => ?_) (fun h => absurd h (by decide))
      refine zIloadN d_X6_worth_72 rfl rfl (q := 73) rfl ?_
      refine zIf_gt d_X6_worth_73 (tgt := 78) (q := 76) (by decide) rfl (fun h73 => ?_) (fun h => absurd ((nI_ltI (a := 0) (by omega) (by omega)).mpr (by omega)) h)
      refine zIloadN d_X6_worth_78 rfl rfl (q := 79) rfl ?_
      refine zIconst d_X6_worth_79 (v := 3) ic_3 (q := 80) rfl ?_
      refine zIcmp_ne d_X6_worth_80 (tgt := 92) (q := 83) (by decide) rfl (fun h80 => ?_) (fun h => absurd h (by decide))
      refine zIloadN d_X6_worth_92 rfl rfl (q := 93) rfl ?_
      refine zIconst d_X6_worth_93 (v := 2) ic_2 (q := 94) rfl ?_
      refine zIcmp_ne d_X6_worth_94 (tgt := 125) (q := 97) (by decide) rfl (fun h94 => ?_) (fun h => absurd h (by decide))
      refine zIloadN d_X6_worth_125 rfl rfl (q := 126) rfl ?_
      refine zIconst d_X6_worth_126 (v := 4) ic_4 (q := 127) rfl ?_
      refine zIcmp_eq d_X6_worth_127 (tgt := 135) (q := 130) (by decide) rfl (fun h => absurd h (by decide)) (fun h127 => ?_)
      refine zIloadN d_X6_worth_130 rfl rfl (q := 131) rfl ?_
      refine zIconst d_X6_worth_131 (v := 5) ic_5 (q := 132) rfl ?_
      refine zIcmp_ne d_X6_worth_132 (tgt := 180) (q := 135) (by decide) rfl (fun h => absurd h (by decide)) (fun h132 => ?_)
      refine zAloadN d_X6_worth_135 rfl rfl (q := 136) rfl ?_
      refine zGetR d_X6_worth_136 ff_X6_16 hw.1 (zlt4 hw) (zlw2 hw) (q := 139) rfl ?_
      refine zIloadN d_X6_worth_139 rfl rfl (q := 140) rfl ?_
      refine zIconst d_X6_worth_140 (v := 1) ic_1 (q := 141) rfl ?_
      refine zIsub d_X6_worth_141 (q := 142) rfl ?_
      refine zIald d_X6_worth_142 hw.2.2.2.1 (zlt3 hw) (nI_pred _) (by omega) (q := 143) rfl ?_
      rw [zup_eq, hF.1]
      refine zIstore d_X6_worth_143 (by decide) rfl (q := 145) rfl ?_
      refine zAloadN d_X6_worth_145 rfl rfl (q := 146) rfl ?_
      refine zGetR d_X6_worth_146 ff_X6_16 hw.1 (zlt4 hw) (zlw2 hw) (q := 149) rfl ?_
      refine zIloadN d_X6_worth_149 rfl rfl (q := 150) rfl ?_
      refine zIconst d_X6_worth_150 (v := 1) ic_1 (q := 151) rfl ?_
      refine zIsub d_X6_worth_151 (q := 152) rfl ?_
      refine zIloadN d_X6_worth_152 rfl rfl (q := 153) rfl ?_
      refine zIconst d_X6_worth_153 (v := 5) ic_5 (q := 154) rfl ?_
      refine zIcmp_ne d_X6_worth_154 (tgt := 163) (q := 157) (by decide) rfl (fun h => absurd h (by decide)) (fun h154 => ?_)
      refine zIload d_X6_worth_157 rfl (q := 159) rfl ?_
      refine zIneg d_X6_worth_159 (q := 160) rfl ?_
      refine zGoto d_X6_worth_160 (q := 176) (by decide) ?_
      refine zIast d_X6_worth_176 hw.2.2.2.1 (zlt3 hw) (nI_pred _) (by omega) (q := 177) rfl ?_
      rw [zup_zup, zup_eq]
      refine zGoto d_X6_worth_177 (q := 214) (by decide) ?_
      refine zIinc d_X6_worth_214 rfl (zinc _) (by decide) rfl (q := 217) rfl ?_
      refine zGoto d_X6_worth_217 (q := 4) (by decide) ?_
      refine zSub [0, 3, 4] rfl ?_
      exact K _ ⟨zup_eq, zStk_up hF.2 (Nat.le_refl _)⟩
  · obtain ⟨y, x, r, rfl⟩ : ∃ y x r, st = y :: x :: r := by
      match st, hl with
      | y :: x :: r, _ => exact ⟨y, x, r, rfl⟩
    have hn := zops hop
    rw [zstpJ hn] at K
    have el : (y :: x :: r).length = r.length + 1 + 1 := rfl
    rw [el] at hst hl ⊢
    refine zIloadN d_X6_worth_4 rfl rfl (q := 5) rfl ?_
    refine zAloadN d_X6_worth_5 rfl rfl (q := 6) rfl ?_
    refine zGetI d_X6_worth_6 ff_X6_22 hw.1 (zlt4 hw) (q := 9) rfl ?_
    refine zIcmp_ge d_X6_worth_9 (tgt := 220) (q := 12) (by decide) rfl (fun h => absurd h hlt) (fun h9 => ?_)
    refine zAloadN d_X6_worth_12 rfl rfl (q := 13) rfl ?_
    refine zGetR d_X6_worth_13 ff_X6_9 hw.1 (zlt4 hw) (zlw0 hw) (q := 16) rfl ?_
    refine zIloadN d_X6_worth_16 rfl rfl (q := 17) rfl ?_
    refine zIald d_X6_worth_17 hw.2.1 (zlt1 hw) rfl (by omega) (q := 18) rfl ?_
    rw [e1, hS]
    refine zIstoreN d_X6_worth_18 rfl (by decide) rfl (q := 19) rfl ?_
    refine zIloadN d_X6_worth_19 rfl rfl (q := 20) rfl ?_
    refine zIf_eq d_X6_worth_20 (tgt := 28) (q := 23) (by decide) rfl (fun h => absurd h hn.1) (fun h20 => ?_)
    refine zIloadN d_X6_worth_23 rfl rfl (q := 24) rfl ?_
    refine zIconst d_X6_worth_24 (v := 1) ic_1 (q := 25) rfl ?_
    refine zIcmp_ne d_X6_worth_25 (tgt := 72) (q := 28) (by decide) rfl (fun h25 => ?_) (fun h => absurd h hn.2.1)
    refine zIloadN d_X6_worth_72 rfl rfl (q := 73) rfl ?_
    refine zIf_gt d_X6_worth_73 (tgt := 78) (q := 76) (by decide) rfl (fun h73 => ?_) (fun h => absurd ((nI_ltI (a := 0) (by omega) (by omega)).mpr (by omega)) h)
    refine zIloadN d_X6_worth_78 rfl rfl (q := 79) rfl ?_
    refine zIconst d_X6_worth_79 (v := 3) ic_3 (q := 80) rfl ?_
    refine zIcmp_ne d_X6_worth_80 (tgt := 92) (q := 83) (by decide) rfl (fun h80 => ?_) (fun h => absurd h hn.2.2.2.1)
    refine zIloadN d_X6_worth_92 rfl rfl (q := 93) rfl ?_
    refine zIconst d_X6_worth_93 (v := 2) ic_2 (q := 94) rfl ?_
    refine zIcmp_ne d_X6_worth_94 (tgt := 125) (q := 97) (by decide) rfl (fun h94 => ?_) (fun h => absurd h hn.2.2.1)
    refine zIloadN d_X6_worth_125 rfl rfl (q := 126) rfl ?_
    refine zIconst d_X6_worth_126 (v := 4) ic_4 (q := 127) rfl ?_
    refine zIcmp_eq d_X6_worth_127 (tgt := 135) (q := 130) (by decide) rfl (fun h => absurd h hn.2.2.2.2.1) (fun h127 => ?_)
    refine zIloadN d_X6_worth_130 rfl rfl (q := 131) rfl ?_
    refine zIconst d_X6_worth_131 (v := 5) ic_5 (q := 132) rfl ?_
    refine zIcmp_ne d_X6_worth_132 (tgt := 180) (q := 135) (by decide) rfl (fun h132 => ?_) (fun h => absurd h hn.2.2.2.2.2)
    refine zIloadN d_X6_worth_180 rfl rfl (q := 181) rfl ?_
    refine zIconst d_X6_worth_181 (v := 1) ic_1 (q := 182) rfl ?_
    refine zIcmp_le d_X6_worth_182 (tgt := 214) (q := 185) (by decide) rfl (fun h => absurd h (by intro q; have := nle (a := 1) q; omega)) (fun h182 => ?_)
    refine zIinc d_X6_worth_185 rfl (pk_m1 _) (by decide) rfl (q := 188) rfl ?_
    refine zAloadN d_X6_worth_188 rfl rfl (q := 189) rfl ?_
    refine zGetR d_X6_worth_189 ff_X6_16 hw.1 (zlt4 hw) (zlw2 hw) (q := 192) rfl ?_
    refine zIloadN d_X6_worth_192 rfl rfl (q := 193) rfl ?_
    refine zIconst d_X6_worth_193 (v := 1) ic_1 (q := 194) rfl ?_
    refine zIsub d_X6_worth_194 (q := 195) rfl ?_
    refine zIloadN d_X6_worth_195 rfl rfl (q := 196) rfl ?_
    refine zAloadN d_X6_worth_196 rfl rfl (q := 197) rfl ?_
    refine zGetR d_X6_worth_197 ff_X6_16 hw.1 (zlt4 hw) (zlw2 hw) (q := 200) rfl ?_
    refine zIloadN d_X6_worth_200 rfl rfl (q := 201) rfl ?_
    refine zIconst d_X6_worth_201 (v := 1) ic_1 (q := 202) rfl ?_
    refine zIsub d_X6_worth_202 (q := 203) rfl ?_
    refine zIald d_X6_worth_203 hw.2.2.2.1 (zlt3 hw) (nI_pred _) (by omega) (q := 204) rfl ?_
    refine zAloadN d_X6_worth_204 rfl rfl (q := 205) rfl ?_
    refine zGetR d_X6_worth_205 ff_X6_16 hw.1 (zlt4 hw) (zlw2 hw) (q := 208) rfl ?_
    refine zIloadN d_X6_worth_208 rfl rfl (q := 209) rfl ?_
    refine zIald d_X6_worth_209 hw.2.2.2.1 (zlt3 hw) rfl (by omega) (q := 210) rfl ?_
    rw [zup_eq, show F (r.length + 1) = y from hF.1, show F r.length = x from hF.2.1]
    refine zCallSP d_X6_worth_210 ml_X6_55 k_X6_joined kt_X6_joined (sp_X6_joined (d := d - 1) (by omega) ) rfl rfl (Nat.le_of_ble_eq_true rfl) (by decide) (by omega) zns100 (q := 213) rfl ?_
    refine zIast d_X6_worth_213 hw.2.2.2.1 (zlt3 hw) (nI_pred _) (by omega) (q := 214) rfl ?_
    rw [zup_zup, zup_eq]
    refine zIinc d_X6_worth_214 rfl (zinc _) (by decide) rfl (q := 217) rfl ?_
    refine zGoto d_X6_worth_217 (q := 4) (by decide) ?_
    refine zSub [0, 1, 3] rfl ?_
    exact K _ ⟨zup_eq, zStk_up hF.2.2 (Nat.le_refl _)⟩
theorem zrun20 (hd : 3 ≤ d) (hw : zLwf h) {sz : Nat} (hsz : I h 4 = nI sz) (h128 : sz ≤ 128) : ∀ (c : List zSt1) (p : Nat) (st : List Int32) (F : Nat → Int32) (b : Nat), zLy (I (h + 1)) (I (h + 2)) p c → p + c.length ≤ sz → zWfS c st.length b → zStk F st → st.length ≤ p →
    (∀ F', zStk F' (zRunS (I (h + 4)) c st) → (zRunS (I (h + 4)) c st).length = b → zA g l d m_X6_worth (zup I (h + 3) F') L fs 4 [(2, .int (nI (p + c.length))), (1, .int (nI b)), (0, .ref h)] Q) →
    zA g l d m_X6_worth (zup I (h + 3) F) L fs 4 [(2, .int (nI p)), (1, .int (nI st.length)), (0, .ref h)] Q := by
  intro c
  induction c with
  | nil =>
    intro p st F b _ _ hwf hF _ K
    have e : st.length = b := hwf
    rw [e]
    exact K F hF e
  | cons a c ih =>
    intro p st F b hly hp hwf hF hst K
    obtain ⟨⟨hS, hW⟩, hly2⟩ := zLy_cons hly
    have hl : (a :: c).length = c.length + 1 := rfl
    rw [hl] at hp K
    have hcase : (a.1 = 0 ∨ (a.1 = 1 ∧ ∃ k : Nat, k < 6 ∧ a.2 = nI k) ∨ ((a.1 = 4 ∨ a.1 = 5) ∧ 1 ≤ st.length) ∨ (a.1 ∈ ([37, 38, 42, 43, 45, 47, 60, 61, 62, 124] : List Int32) ∧ 2 ≤ st.length)) ∧ zWfS c (zStp (I (h + 4)) a st).length b ∧ (zStp (I (h + 4)) a st).length ≤ p + 1 := by
      rcases hwf with ⟨h0, h2⟩ | ⟨h1, hk, h2⟩ | ⟨h45, h1, h2⟩ | ⟨hop, h1, h2⟩
      · rw [zlen_stp.1 h0]
        exact ⟨Or.inl h0, h2, Nat.succ_le_succ hst⟩
      · rw [zlen_stp.2 h1]
        exact ⟨Or.inr (Or.inl ⟨h1, hk⟩), h2, Nat.succ_le_succ hst⟩
      · refine ⟨Or.inr (Or.inr (Or.inl ⟨h45, h1⟩)), ?_⟩
        match st, h1 with
        | x :: r, _ =>
          rcases h45 with h4 | h5
          · rw [zstp4 h4]; exact ⟨h2, Nat.le_succ_of_le hst⟩
          · rw [zstp5 h5]; exact ⟨h2, Nat.le_succ_of_le hst⟩
      · refine ⟨Or.inr (Or.inr (Or.inr ⟨hop, h1⟩)), ?_⟩
        match st, h1 with
        | y :: x :: r, _ =>
          rw [zstpJ (zops hop)]
          refine ⟨h2, ?_⟩
          have e1 : (y :: x :: r).length = r.length + 1 + 1 := rfl
          have e2 : (zJn a.1 x y :: r).length = r.length + 1 := rfl
          omega
    refine zstep20 hd hw hsz h128 (by omega) hS hW hF hst hcase.1 (fun F' hF' => ?_)
    refine ih (p + 1) _ F' b hly2 (by omega) hcase.2.1 hF' hcase.2.2 (fun F2 h1 h2 => ?_)
    rw [show p + 1 + c.length = p + (c.length + 1) by omega]
    exact K F2 h1 h2
theorem zlen1 {s : List Int32} (h : s.length = 1) : s = [zHd s] := by
  match s, h with
  | [x], _ => rfl
theorem sp_X6_worth (hd : 3 ≤ d) (hw : zLwf h) {sz : Nat} (hsz : I h 4 = nI sz) (h128 : sz ≤ 128) {ls : List zLine} (hly : zLy (I (h + 1)) (I (h + 2)) 0 (zCd 0 ls)) (hlen : (zCd 0 ls).length = sz) (hwf : ∀ x ∈ ls, zWfL x) :
    zSp g l d 100 m_X6_worth [.ref h] (zU I L fs) (zX (fun x w => x = zEvL (I (h + 4)) ls ∧ ∃ F, w = zU (zup I (h + 3) F) L fs)) := by
  have hh := hw.2.2.2.2.2.2.1
  have e0 : ∀ F, (zup I (h + 3) F) h 4 = nI sz := fun F => by rw [zup_ne (by omega)]; exact hsz
  have e1 : ∀ F, (zup I (h + 3) F) (h + 1) = I (h + 1) := fun F => zup_ne (by omega)
  have e2 : ∀ F, (zup I (h + 3) F) (h + 2) = I (h + 2) := fun F => zup_ne (by omega)
  -- a line's value, then its end
  have vend : ∀ (v : List zSt1) (p : Nat) (F : Nat → Int32), zLy (I (h + 1)) (I (h + 2)) p (v ++ [(3, 0)]) → p + v.length + 1 ≤ sz → zWfS v 0 1 → zA g l d m_X6_worth (zup I (h + 3) F) L fs 4 [(2, .int (nI p)), (1, .int (nI 0)), (0, .ref h)] (zX (fun x w => x = zHd (zRunS (I (h + 4)) v []) ∧ ∃ F, w = zU (zup I (h + 3) F) L fs)) := by
    intro v p F hly hp hwf
    obtain ⟨h1, h2⟩ := zLy_app hly
    have h3 := (zLy_cons h2).1.1
    refine zrun20 hd hw hsz h128 v p [] F 1 h1 (by omega) hwf trivial (Nat.zero_le _) (fun F' hF' hl => ?_)
    rw [zlen1 hl] at hF'
    have hlt : ¬ (zup I (h + 3) F') h 4 ≤ nI (p + v.length) := by rw [e0]; exact nI_ge (by omega) (by omega)
    refine zIloadN d_X6_worth_4 rfl rfl (q := 5) rfl ?_
    refine zAloadN d_X6_worth_5 rfl rfl (q := 6) rfl ?_
    refine zGetI d_X6_worth_6 ff_X6_22 hw.1 (zlt4 hw) (q := 9) rfl ?_
    refine zIcmp_ge d_X6_worth_9 (tgt := 220) (q := 12) (by decide) rfl (fun h => absurd h hlt) (fun h9 => ?_)
    refine zAloadN d_X6_worth_12 rfl rfl (q := 13) rfl ?_
    refine zGetR d_X6_worth_13 ff_X6_9 hw.1 (zlt4 hw) (zlw0 hw) (q := 16) rfl ?_
    refine zIloadN d_X6_worth_16 rfl rfl (q := 17) rfl ?_
    refine zIald d_X6_worth_17 hw.2.1 (zlt1 hw) rfl (by omega) (q := 18) rfl ?_
    rw [e1, h3]
    refine zIstoreN d_X6_worth_18 rfl (by decide) rfl (q := 19) rfl ?_
    refine zIloadN d_X6_worth_19 rfl rfl (q := 20) rfl ?_
    refine zIf_eq d_X6_worth_20 (tgt := 28) (q := 23) (by decide) rfl (fun h => absurd h (by decide)) (fun h20 => ?_)
    refine zIloadN d_X6_worth_23 rfl rfl (q := 24) rfl ?_
    refine zIconst d_X6_worth_24 (v := 1) ic_1 (q := 25) rfl ?_
    refine zIcmp_ne d_X6_worth_25 (tgt := 72) (q := 28) (by decide) rfl (fun h25 => ?_) (fun h => absurd h (by decide))
    refine zIloadN d_X6_worth_72 rfl rfl (q := 73) rfl ?_
    refine zIf_gt d_X6_worth_73 (tgt := 78) (q := 76) (by decide) rfl (fun h73 => ?_) (fun h => absurd (by decide) h)
    refine zIloadN d_X6_worth_78 rfl rfl (q := 79) rfl ?_
    refine zIconst d_X6_worth_79 (v := 3) ic_3 (q := 80) rfl ?_
    refine zIcmp_ne d_X6_worth_80 (tgt := 92) (q := 83) (by decide) rfl (fun h => absurd h (by decide)) (fun h80 => ?_)
    refine zAloadN d_X6_worth_83 rfl rfl (q := 84) rfl ?_
    refine zGetR d_X6_worth_84 ff_X6_16 hw.1 (zlt4 hw) (zlw2 hw) (q := 87) rfl ?_
    refine zIloadN d_X6_worth_87 rfl rfl (q := 88) rfl ?_
    refine zIconst d_X6_worth_88 (v := 1) ic_1 (q := 89) rfl ?_
    refine zIsub d_X6_worth_89 (q := 90) rfl ?_
    refine zIald d_X6_worth_90 hw.2.2.2.1 (zlt3 hw) (nI_pred 0) (by omega) (q := 91) rfl ?_
    rw [zup_eq, show F' 0 = zHd (zRunS (I (h + 4)) v []) from hF'.1]
    refine zIret d_X6_worth_91 rfl rfl rfl ?_
    exact ⟨_, rfl, rfl, F', rfl⟩
  have lines : ∀ (ls : List zLine) (p : Nat) (F : Nat → Int32), zLy (I (h + 1)) (I (h + 2)) p (zCd p ls) → p + (zCd p ls).length = sz → (∀ x ∈ ls, zWfL x) → zA g l d m_X6_worth (zup I (h + 3) F) L fs 4 [(2, .int (nI p)), (1, .int (nI 0)), (0, .ref h)] (zX (fun x w => x = zEvL (I (h + 4)) ls ∧ ∃ F, w = zU (zup I (h + 3) F) L fs)) := by
    intro ls
    induction ls with
    | nil =>
      intro p F _ hp _
      have hp : p = sz := hp
      have hge : (zup I (h + 3) F) h 4 ≤ nI p := by rw [e0, hp]; exact Int32.le_refl _
      refine zIloadN d_X6_worth_4 rfl rfl (q := 5) rfl ?_
      refine zAloadN d_X6_worth_5 rfl rfl (q := 6) rfl ?_
      refine zGetI d_X6_worth_6 ff_X6_22 hw.1 (zlt4 hw) (q := 9) rfl ?_
      refine zIcmp_ge d_X6_worth_9 (tgt := 220) (q := 12) (by decide) rfl (fun h9 => ?_) (fun h => absurd hge h)
      refine zIconst d_X6_worth_220 (v := 0) ic_0 (q := 221) rfl ?_
      refine zIret d_X6_worth_221 rfl rfl rfl ?_
      exact ⟨_, rfl, rfl, F, rfl⟩
    | cons x ls ih =>
      intro p F hly hp hwf
      obtain ⟨hx1, hx2⟩ := hwf x List.mem_cons_self
      obtain ⟨hlx, hlr⟩ := zLy_app hly
      have hp : p + (zCdL p x ++ zCd (p + (zCdL p x).length) ls).length = sz := hp
      rw [List.length_append] at hp
      obtain ⟨t, v⟩ := x
      cases t with
      | none =>
        have hlen : (zCdL p (none, v)).length = v.length + 1 := by show (v ++ [(3, 0)]).length = _; rw [List.length_append]; rfl
        rw [hlen] at hp
        exact vend v p F hlx (by omega) hx1
      | some t =>
        have hlen : (zCdL p (some t, v)).length = t.length + (1 + (v.length + 1)) := by show (t ++ (2, nI (p + (t.length + 1 + (v.length + 1)))) :: (v ++ [(3, 0)])).length = _; rw [List.length_append, List.length_cons, List.length_append]; show t.length + (v.length + 1 + 1) = _; omega
        rw [hlen] at hp hlr
        obtain ⟨h1, h2⟩ := zLy_app hlx
        obtain ⟨⟨h3, h4⟩, h5⟩ := zLy_cons h2
        have h3 : I (h + 1) (p + t.length) = 2 := h3
        have h4 : I (h + 2) (p + t.length) = nI (p + (t.length + 1 + (v.length + 1))) := h4
        refine zrun20 hd hw hsz h128 t p [] F 1 h1 (by omega) (hx2 t rfl) trivial (Nat.zero_le _) (fun F' hF' hl => ?_)
        rw [zlen1 hl] at hF'
        have hlt : ¬ (zup I (h + 3) F') h 4 ≤ nI (p + t.length) := by rw [e0]; exact nI_ge (by omega) (by omega)
        have hev : zEvL (I (h + 4)) ((some t, v) :: ls) = if zHd (zRunS (I (h + 4)) t []) = 0 then zEvL (I (h + 4)) ls else zHd (zRunS (I (h + 4)) v []) := rfl
        rw [hev]
        refine zIloadN d_X6_worth_4 rfl rfl (q := 5) rfl ?_
        refine zAloadN d_X6_worth_5 rfl rfl (q := 6) rfl ?_
        refine zGetI d_X6_worth_6 ff_X6_22 hw.1 (zlt4 hw) (q := 9) rfl ?_
        refine zIcmp_ge d_X6_worth_9 (tgt := 220) (q := 12) (by decide) rfl (fun h => absurd h hlt) (fun h9 => ?_)
        refine zAloadN d_X6_worth_12 rfl rfl (q := 13) rfl ?_
        refine zGetR d_X6_worth_13 ff_X6_9 hw.1 (zlt4 hw) (zlw0 hw) (q := 16) rfl ?_
        refine zIloadN d_X6_worth_16 rfl rfl (q := 17) rfl ?_
        refine zIald d_X6_worth_17 hw.2.1 (zlt1 hw) rfl (by omega) (q := 18) rfl ?_
        rw [e1, h3]
        refine zIstoreN d_X6_worth_18 rfl (by decide) rfl (q := 19) rfl ?_
        refine zIloadN d_X6_worth_19 rfl rfl (q := 20) rfl ?_
        refine zIf_eq d_X6_worth_20 (tgt := 28) (q := 23) (by decide) rfl (fun h => absurd h (by decide)) (fun h20 => ?_)
        refine zIloadN d_X6_worth_23 rfl rfl (q := 24) rfl ?_
        refine zIconst d_X6_worth_24 (v := 1) ic_1 (q := 25) rfl ?_
        refine zIcmp_ne d_X6_worth_25 (tgt := 72) (q := 28) (by decide) rfl (fun h25 => ?_) (fun h => absurd h (by decide))
        refine zIloadN d_X6_worth_72 rfl rfl (q := 73) rfl ?_
        refine zIf_gt d_X6_worth_73 (tgt := 78) (q := 76) (by decide) rfl (fun h73 => ?_) (fun h => absurd (by decide) h)
        refine zIloadN d_X6_worth_78 rfl rfl (q := 79) rfl ?_
        refine zIconst d_X6_worth_79 (v := 3) ic_3 (q := 80) rfl ?_
        refine zIcmp_ne d_X6_worth_80 (tgt := 92) (q := 83) (by decide) rfl (fun h80 => ?_) (fun h => absurd h (by decide))
        refine zIloadN d_X6_worth_92 rfl rfl (q := 93) rfl ?_
        refine zIconst d_X6_worth_93 (v := 2) ic_2 (q := 94) rfl ?_
        refine zIcmp_ne d_X6_worth_94 (tgt := 125) (q := 97) (by decide) rfl (fun h => absurd h (by decide)) (fun h94 => ?_)
        refine zIinc d_X6_worth_97 rfl (pk_m1 0) (by decide) rfl (q := 100) rfl ?_
        refine zAloadN d_X6_worth_100 rfl rfl (q := 101) rfl ?_
        refine zGetR d_X6_worth_101 ff_X6_16 hw.1 (zlt4 hw) (zlw2 hw) (q := 104) rfl ?_
        refine zIloadN d_X6_worth_104 rfl rfl (q := 105) rfl ?_
        refine zIald d_X6_worth_105 hw.2.2.2.1 (zlt3 hw) rfl (by omega) (q := 106) rfl ?_
        rw [zup_eq, show F' 0 = zHd (zRunS (I (h + 4)) t []) from hF'.1]
        refine zIf_ne d_X6_worth_106 (tgt := 214) (q := 109) (by decide) rfl (fun h106 => ?_) (fun h106 => ?_)
        · rw [if_neg h106]
          refine zIinc d_X6_worth_214 rfl (zinc _) (by decide) rfl (q := 217) rfl ?_
          refine zGoto d_X6_worth_217 (q := 4) (by decide) ?_
          refine zSub [0, 1, 3] rfl ?_
          first
          | exact vend v (p + t.length + 1) F' h5 (by omega) hx1
          | exact (show p + (t.length + (1 + (v.length + 1))) = p + (t.length + (v.length + 1)) + 1 by omega) ▸ ih (p + (t.length + (1 + (v.length + 1)))) F' hlr (by omega) (fun x hx => hwf x (List.mem_cons_of_mem _ hx))
        · rw [if_pos h106]
          refine zIloadN d_X6_worth_109 rfl rfl (q := 110) rfl ?_
          refine zAloadN d_X6_worth_110 rfl rfl (q := 111) rfl ?_
          refine zGetR d_X6_worth_111 ff_X6_13 hw.1 (zlt4 hw) (zlw1 hw) (q := 114) rfl ?_
          refine zIloadN d_X6_worth_114 rfl rfl (q := 115) rfl ?_
          refine zIald d_X6_worth_115 hw.2.2.1 (zlt2 hw) rfl (by omega) (q := 116) rfl ?_
          refine zIconst d_X6_worth_116 (v := 1) ic_1 (q := 117) rfl ?_
          refine zIsub d_X6_worth_117 (q := 118) rfl ?_
          rw [e2, h4, show p + (t.length + 1 + (v.length + 1)) = p + (t.length + (v.length + 1)) + 1 by omega, nI_pred]
          refine zMax d_X6_worth_118 ml_X6_44 (by omega) (Nat.le_of_ble_eq_true rfl) ⟨Nat.le_refl _, Nat.le_refl _⟩ (q := 121) rfl ?_
          rw [show (if nI (p + t.length) < nI (p + (t.length + (v.length + 1))) then nI (p + (t.length + (v.length + 1))) else nI (p + t.length)) = nI (p + (t.length + (v.length + 1))) from if_pos ((nI_ltI (by omega) (by omega)).mpr (by omega))]
          refine zIstoreN d_X6_worth_121 rfl (by decide) rfl (q := 122) rfl ?_
          refine zGoto d_X6_worth_122 (q := 214) (by decide) ?_
          refine zIinc d_X6_worth_214 rfl (zinc _) (by decide) rfl (q := 217) rfl ?_
          refine zGoto d_X6_worth_217 (q := 4) (by decide) ?_
          refine zSub [0, 1, 3] rfl ?_
          first
          | exact vend v (p + t.length + 1) F' h5 (by omega) hx1
          | exact (show p + (t.length + (1 + (v.length + 1))) = p + (t.length + (v.length + 1)) + 1 by omega) ▸ ih (p + (t.length + (1 + (v.length + 1)))) F' hlr (by omega) (fun x hx => hwf x (List.mem_cons_of_mem _ hx))
  have h0 := lines ls 0 (I (h + 3)) hly (by omega) hwf
  rw [zup_self] at h0
  refine zSp_of (lv := [(0, .ref h)]) k_X6_worth rfl (Nat.le_of_ble_eq_true rfl) ?_
  refine zIconst d_X6_worth_0 (v := 0) ic_0 (q := 1) rfl ?_
  refine zIstoreN d_X6_worth_1 rfl (by decide) rfl (q := 2) rfl ?_
  refine zIconst d_X6_worth_2 (v := 0) ic_0 (q := 3) rfl ?_
  refine zIstoreN d_X6_worth_3 rfl (by decide) rfl (q := 4) rfl ?_
  refine zSub [0, 1, 2] rfl ?_
  exact h0
end S20

