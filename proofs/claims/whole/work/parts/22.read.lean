theorem d_X7_read_0 : decode (zmc m_X7_read) 0 = .ok (.aload_n 2, 1) := by decide +kernel
theorem d_X7_read_1 : decode (zmc m_X7_read) 1 = .ok (.iconst 5, 1) := by decide +kernel
theorem d_X7_read_2 : decode (zmc m_X7_read) 2 = .ok (.invokevirtual 24, 3) := by decide +kernel
theorem d_X7_read_5 : decode (zmc m_X7_read) 5 = .ok (.istore 4, 2) := by decide +kernel
theorem d_X7_read_7 : decode (zmc m_X7_read) 7 = .ok (.aload_n 0, 1) := by decide +kernel
theorem d_X7_read_8 : decode (zmc m_X7_read) 8 = .ok (.iconst 0, 1) := by decide +kernel
theorem d_X7_read_9 : decode (zmc m_X7_read) 9 = .ok (.putfield 28, 3) := by decide +kernel
theorem d_X7_read_12 : decode (zmc m_X7_read) 12 = .ok (.aload_n 0, 1) := by decide +kernel
theorem d_X7_read_13 : decode (zmc m_X7_read) 13 = .ok (.aload_n 2, 1) := by decide +kernel
theorem d_X7_read_14 : decode (zmc m_X7_read) 14 = .ok (.bipush 9, 2) := by decide +kernel
theorem d_X7_read_16 : decode (zmc m_X7_read) 16 = .ok (.iconst 0, 1) := by decide +kernel
theorem d_X7_read_17 : decode (zmc m_X7_read) 17 = .ok (.invokevirtual 32, 3) := by decide +kernel
theorem d_X7_read_20 : decode (zmc m_X7_read) 20 = .ok (.putfield 36, 3) := by decide +kernel
theorem d_X7_read_23 : decode (zmc m_X7_read) 23 = .ok (.iconst 0, 1) := by decide +kernel
theorem d_X7_read_24 : decode (zmc m_X7_read) 24 = .ok (.istore 5, 2) := by decide +kernel
theorem d_X7_read_26 : decode (zmc m_X7_read) 26 = .ok (.iload 5, 2) := by decide +kernel
theorem d_X7_read_28 : decode (zmc m_X7_read) 28 = .ok (.iconst 4, 1) := by decide +kernel
theorem d_X7_read_29 : decode (zmc m_X7_read) 29 = .ok (.if_icmp .ge 20, 3) := by decide +kernel
theorem d_X7_read_32 : decode (zmc m_X7_read) 32 = .ok (.aload_n 0, 1) := by decide +kernel
theorem d_X7_read_33 : decode (zmc m_X7_read) 33 = .ok (.getfield 21, 3) := by decide +kernel
theorem d_X7_read_36 : decode (zmc m_X7_read) 36 = .ok (.iload 5, 2) := by decide +kernel
theorem d_X7_read_38 : decode (zmc m_X7_read) 38 = .ok (.aload_n 0, 1) := by decide +kernel
theorem d_X7_read_39 : decode (zmc m_X7_read) 39 = .ok (.getfield 36, 3) := by decide +kernel
theorem d_X7_read_42 : decode (zmc m_X7_read) 42 = .ok (.iastore, 1) := by decide +kernel
theorem d_X7_read_43 : decode (zmc m_X7_read) 43 = .ok (.iinc 5 1, 3) := by decide +kernel
theorem d_X7_read_46 : decode (zmc m_X7_read) 46 = .ok (.goto (-20), 3) := by decide +kernel
theorem d_X7_read_49 : decode (zmc m_X7_read) 49 = .ok (.iconst 0, 1) := by decide +kernel
theorem d_X7_read_50 : decode (zmc m_X7_read) 50 = .ok (.istore 5, 2) := by decide +kernel
theorem d_X7_read_52 : decode (zmc m_X7_read) 52 = .ok (.iload 5, 2) := by decide +kernel
theorem d_X7_read_54 : decode (zmc m_X7_read) 54 = .ok (.bipush 10, 2) := by decide +kernel
theorem d_X7_read_56 : decode (zmc m_X7_read) 56 = .ok (.if_icmp .ge 168, 3) := by decide +kernel
theorem d_X7_read_59 : decode (zmc m_X7_read) 59 = .ok (.aload_n 1, 1) := by decide +kernel
theorem d_X7_read_60 : decode (zmc m_X7_read) 60 = .ok (.iconst 2, 1) := by decide +kernel
theorem d_X7_read_61 : decode (zmc m_X7_read) 61 = .ok (.iload 5, 2) := by decide +kernel
theorem d_X7_read_63 : decode (zmc m_X7_read) 63 = .ok (.imul, 1) := by decide +kernel
theorem d_X7_read_64 : decode (zmc m_X7_read) 64 = .ok (.invokevirtual 39, 3) := by decide +kernel
theorem d_X7_read_67 : decode (zmc m_X7_read) 67 = .ok (.istore 6, 2) := by decide +kernel
theorem d_X7_read_69 : decode (zmc m_X7_read) 69 = .ok (.aload_n 1, 1) := by decide +kernel
theorem d_X7_read_70 : decode (zmc m_X7_read) 70 = .ok (.iconst 2, 1) := by decide +kernel
theorem d_X7_read_71 : decode (zmc m_X7_read) 71 = .ok (.iload 5, 2) := by decide +kernel
theorem d_X7_read_73 : decode (zmc m_X7_read) 73 = .ok (.imul, 1) := by decide +kernel
theorem d_X7_read_74 : decode (zmc m_X7_read) 74 = .ok (.iconst 1, 1) := by decide +kernel
theorem d_X7_read_75 : decode (zmc m_X7_read) 75 = .ok (.iadd, 1) := by decide +kernel
theorem d_X7_read_76 : decode (zmc m_X7_read) 76 = .ok (.invokevirtual 39, 3) := by decide +kernel
theorem d_X7_read_79 : decode (zmc m_X7_read) 79 = .ok (.istore 7, 2) := by decide +kernel
theorem d_X7_read_81 : decode (zmc m_X7_read) 81 = .ok (.aload_n 2, 1) := by decide +kernel
theorem d_X7_read_82 : decode (zmc m_X7_read) 82 = .ok (.iconst 0, 1) := by decide +kernel
theorem d_X7_read_83 : decode (zmc m_X7_read) 83 = .ok (.iload 6, 2) := by decide +kernel
theorem d_X7_read_85 : decode (zmc m_X7_read) 85 = .ok (.invokevirtual 44, 3) := by decide +kernel
theorem d_X7_read_88 : decode (zmc m_X7_read) 88 = .ok (.ifCond .eq 24, 3) := by decide +kernel
theorem d_X7_read_91 : decode (zmc m_X7_read) 91 = .ok (.aload_n 2, 1) := by decide +kernel
theorem d_X7_read_92 : decode (zmc m_X7_read) 92 = .ok (.bipush 6, 2) := by decide +kernel
theorem d_X7_read_94 : decode (zmc m_X7_read) 94 = .ok (.iload 7, 2) := by decide +kernel
theorem d_X7_read_96 : decode (zmc m_X7_read) 96 = .ok (.invokevirtual 44, 3) := by decide +kernel
theorem d_X7_read_99 : decode (zmc m_X7_read) 99 = .ok (.ifCond .eq 13, 3) := by decide +kernel
theorem d_X7_read_102 : decode (zmc m_X7_read) 102 = .ok (.iload 4, 2) := by decide +kernel
theorem d_X7_read_104 : decode (zmc m_X7_read) 104 = .ok (.iload 6, 2) := by decide +kernel
theorem d_X7_read_106 : decode (zmc m_X7_read) 106 = .ok (.ishr, 1) := by decide +kernel
theorem d_X7_read_107 : decode (zmc m_X7_read) 107 = .ok (.iconst 1, 1) := by decide +kernel
theorem d_X7_read_108 : decode (zmc m_X7_read) 108 = .ok (.iand, 1) := by decide +kernel
theorem d_X7_read_109 : decode (zmc m_X7_read) 109 = .ok (.ifCond .eq 4, 3) := by decide +kernel
theorem d_X7_read_112 : decode (zmc m_X7_read) 112 = .ok (.return_, 1) := by decide +kernel
theorem d_X7_read_113 : decode (zmc m_X7_read) 113 = .ok (.iload 4, 2) := by decide +kernel
theorem d_X7_read_115 : decode (zmc m_X7_read) 115 = .ok (.iconst 1, 1) := by decide +kernel
theorem d_X7_read_116 : decode (zmc m_X7_read) 116 = .ok (.iload 6, 2) := by decide +kernel
theorem d_X7_read_118 : decode (zmc m_X7_read) 118 = .ok (.ishl, 1) := by decide +kernel
theorem d_X7_read_119 : decode (zmc m_X7_read) 119 = .ok (.ior, 1) := by decide +kernel
theorem d_X7_read_120 : decode (zmc m_X7_read) 120 = .ok (.istore 4, 2) := by decide +kernel
theorem d_X7_read_122 : decode (zmc m_X7_read) 122 = .ok (.aload_n 0, 1) := by decide +kernel
theorem d_X7_read_123 : decode (zmc m_X7_read) 123 = .ok (.getfield 9, 3) := by decide +kernel
theorem d_X7_read_126 : decode (zmc m_X7_read) 126 = .ok (.iload 5, 2) := by decide +kernel
theorem d_X7_read_128 : decode (zmc m_X7_read) 128 = .ok (.iload 6, 2) := by decide +kernel
theorem d_X7_read_130 : decode (zmc m_X7_read) 130 = .ok (.iastore, 1) := by decide +kernel
theorem d_X7_read_131 : decode (zmc m_X7_read) 131 = .ok (.aload_n 0, 1) := by decide +kernel
theorem d_X7_read_132 : decode (zmc m_X7_read) 132 = .ok (.getfield 15, 3) := by decide +kernel
theorem d_X7_read_135 : decode (zmc m_X7_read) 135 = .ok (.iload 5, 2) := by decide +kernel
theorem d_X7_read_137 : decode (zmc m_X7_read) 137 = .ok (.sipush 999, 3) := by decide +kernel
theorem d_X7_read_140 : decode (zmc m_X7_read) 140 = .ok (.aload_n 0, 1) := by decide +kernel
theorem d_X7_read_141 : decode (zmc m_X7_read) 141 = .ok (.getfield 21, 3) := by decide +kernel
theorem d_X7_read_144 : decode (zmc m_X7_read) 144 = .ok (.iload 7, 2) := by decide +kernel
theorem d_X7_read_146 : decode (zmc m_X7_read) 146 = .ok (.iaload, 1) := by decide +kernel
theorem d_X7_read_147 : decode (zmc m_X7_read) 147 = .ok (.invokestatic 48, 3) := by decide +kernel
theorem d_X7_read_150 : decode (zmc m_X7_read) 150 = .ok (.iastore, 1) := by decide +kernel
theorem d_X7_read_151 : decode (zmc m_X7_read) 151 = .ok (.aload_n 0, 1) := by decide +kernel
theorem d_X7_read_152 : decode (zmc m_X7_read) 152 = .ok (.getfield 18, 3) := by decide +kernel
theorem d_X7_read_155 : decode (zmc m_X7_read) 155 = .ok (.iload 5, 2) := by decide +kernel
theorem d_X7_read_157 : decode (zmc m_X7_read) 157 = .ok (.aload_n 3, 1) := by decide +kernel
theorem d_X7_read_158 : decode (zmc m_X7_read) 158 = .ok (.aload_n 2, 1) := by decide +kernel
theorem d_X7_read_159 : decode (zmc m_X7_read) 159 = .ok (.iload 6, 2) := by decide +kernel
theorem d_X7_read_161 : decode (zmc m_X7_read) 161 = .ok (.iload 7, 2) := by decide +kernel
theorem d_X7_read_163 : decode (zmc m_X7_read) 163 = .ok (.aload_n 0, 1) := by decide +kernel
theorem d_X7_read_164 : decode (zmc m_X7_read) 164 = .ok (.getfield 15, 3) := by decide +kernel
theorem d_X7_read_167 : decode (zmc m_X7_read) 167 = .ok (.iload 5, 2) := by decide +kernel
theorem d_X7_read_169 : decode (zmc m_X7_read) 169 = .ok (.iaload, 1) := by decide +kernel
theorem d_X7_read_170 : decode (zmc m_X7_read) 170 = .ok (.invokevirtual 53, 3) := by decide +kernel
theorem d_X7_read_173 : decode (zmc m_X7_read) 173 = .ok (.iastore, 1) := by decide +kernel
theorem d_X7_read_174 : decode (zmc m_X7_read) 174 = .ok (.aload_n 0, 1) := by decide +kernel
theorem d_X7_read_175 : decode (zmc m_X7_read) 175 = .ok (.getfield 21, 3) := by decide +kernel
theorem d_X7_read_178 : decode (zmc m_X7_read) 178 = .ok (.iload 7, 2) := by decide +kernel
theorem d_X7_read_180 : decode (zmc m_X7_read) 180 = .ok (.dup2, 1) := by decide +kernel
theorem d_X7_read_181 : decode (zmc m_X7_read) 181 = .ok (.iaload, 1) := by decide +kernel
theorem d_X7_read_182 : decode (zmc m_X7_read) 182 = .ok (.aload_n 2, 1) := by decide +kernel
theorem d_X7_read_183 : decode (zmc m_X7_read) 183 = .ok (.bipush 7, 2) := by decide +kernel
theorem d_X7_read_185 : decode (zmc m_X7_read) 185 = .ok (.iload 7, 2) := by decide +kernel
theorem d_X7_read_187 : decode (zmc m_X7_read) 187 = .ok (.invokevirtual 32, 3) := by decide +kernel
theorem d_X7_read_190 : decode (zmc m_X7_read) 190 = .ok (.iadd, 1) := by decide +kernel
theorem d_X7_read_191 : decode (zmc m_X7_read) 191 = .ok (.iastore, 1) := by decide +kernel
theorem d_X7_read_192 : decode (zmc m_X7_read) 192 = .ok (.aload_n 0, 1) := by decide +kernel
theorem d_X7_read_193 : decode (zmc m_X7_read) 193 = .ok (.aload_n 0, 1) := by decide +kernel
theorem d_X7_read_194 : decode (zmc m_X7_read) 194 = .ok (.getfield 36, 3) := by decide +kernel
theorem d_X7_read_197 : decode (zmc m_X7_read) 197 = .ok (.aload_n 0, 1) := by decide +kernel
theorem d_X7_read_198 : decode (zmc m_X7_read) 198 = .ok (.getfield 21, 3) := by decide +kernel
theorem d_X7_read_201 : decode (zmc m_X7_read) 201 = .ok (.iload 7, 2) := by decide +kernel
theorem d_X7_read_203 : decode (zmc m_X7_read) 203 = .ok (.iaload, 1) := by decide +kernel
theorem d_X7_read_204 : decode (zmc m_X7_read) 204 = .ok (.invokestatic 59, 3) := by decide +kernel
theorem d_X7_read_207 : decode (zmc m_X7_read) 207 = .ok (.putfield 36, 3) := by decide +kernel
theorem d_X7_read_210 : decode (zmc m_X7_read) 210 = .ok (.aload_n 0, 1) := by decide +kernel
theorem d_X7_read_211 : decode (zmc m_X7_read) 211 = .ok (.iload 5, 2) := by decide +kernel
theorem d_X7_read_213 : decode (zmc m_X7_read) 213 = .ok (.iconst 1, 1) := by decide +kernel
theorem d_X7_read_214 : decode (zmc m_X7_read) 214 = .ok (.iadd, 1) := by decide +kernel
theorem d_X7_read_215 : decode (zmc m_X7_read) 215 = .ok (.putfield 28, 3) := by decide +kernel
theorem d_X7_read_218 : decode (zmc m_X7_read) 218 = .ok (.iinc 5 1, 3) := by decide +kernel
theorem d_X7_read_221 : decode (zmc m_X7_read) 221 = .ok (.goto (-169), 3) := by decide +kernel
theorem d_X7_read_224 : decode (zmc m_X7_read) 224 = .ok (.return_, 1) := by decide +kernel
/-! A PLAN IS READ -/
def zPw (I : Nat → Nat → Int32) (L : Nat → Nat → Int64) (r : Nat) (k : Nat) : Int32 := zTold I L r (nI (2 * k))
def zPb (I : Nat → Nat → Int32) (L : Nat → Nat → Int64) (r : Nat) (k : Nat) : Int32 := zTold I L r (nI (2 * k + 1))
/-- behind k twos: who has come (and who is gone), when each is free, when all is done -/
def zPst (I : Nat → Nat → Int32) (L : Nat → Nat → Int64) (ns r : Nat) : Nat → Int32 × (Nat → Int32) × Int32
  | 0 => (zbits (I 8) ns, fun _ => I 12 0, I 12 0)
  | k + 1 =>
    let p := zPst I L ns r k
    let b := (zPb I L r k).toNatClampNeg
    let e := p.2.1 b + I 10 b
    (p.1 ||| ((1 : Int32) <<< (zPw I L r k &&& 31)), zup p.2.1 b e, if p.2.2 < e then e else p.2.2)
def zPmin (I : Nat → Nat → Int32) (L : Nat → Nat → Int64) (ns r k : Nat) : Int32 := let f := (zPst I L ns r k).2.1 (zPb I L r k).toNatClampNeg; if f < 999 then f else 999
def zPod (I : Nat → Nat → Int32) (L : Nat → Nat → Int64) (ns r : Nat) (pg : Option (List zLine)) (k : Nat) : Int32 := zOdds pg (zEn I (zPw I L r k).toNatClampNeg (zPb I L r k).toNatClampNeg (zPmin I L ns r k))
def zPok (I : Nat → Nat → Int32) (L : Nat → Nat → Int64) (ns nt nh r : Nat) (k : Nat) : Bool := decide (((0 ≤ zPw I L r k ∧ zPw I L r k < nI (zHold ns nt nh 0)) ∧ (0 ≤ zPb I L r k ∧ zPb I L r k < nI (zHold ns nt nh 6))) ∧ ((zPst I L ns r k).1 >>> (zPw I L r k &&& 31)) &&& 1 = 0)
def zPn (I : Nat → Nat → Int32) (L : Nat → Nat → Int64) (ns nt nh r : Nat) : Nat := zrun (zPok I L ns nt nh r) 10 0
/-- what lies in the plan behind k twos -/
def zPJ (I : Nat → Nat → Int32) (L : Nat → Nat → Int64) (ns r h : Nat) (pg : Option (List zLine)) (k : Nat) (J : Nat → Nat → Int32) : Prop :=
  (∀ a, ¬ (24 ≤ a ∧ a ≤ 28) → a ≠ h + 3 → a ≠ h + 4 → J a = I a) ∧ (J 24 4 = nI k ∧ J 24 5 = (zPst I L ns r k).2.2 ∧ J 24 6 = I 24 6) ∧ (∀ b, b < 4 → J 28 b = (zPst I L ns r k).2.1 b) ∧ ∀ i, i < k → J 25 i = zPw I L r i ∧ J 26 i = zPmin I L ns r i ∧ J 27 i = zPod I L ns r pg i
theorem zLawOk_ex {I J : Nat → Nat → Int32} {h : Nat} {pg : Option (List zLine)} (h0 : J h = I h) (h1 : J (h + 1) = I (h + 1)) (h2 : J (h + 2) = I (h + 2)) (hl : zLawOk I h pg) : zLawOk J h pg := by
  cases pg with
  | none => show J h 4 = 0; rw [h0]; exact hl
  | some ls =>
    obtain ⟨sz, q1, q2, q3, q4, q5, q6⟩ := hl
    exact ⟨sz, by rw [h0]; exact q1, q2, q3, by rw [h1, h2]; exact q4, q5, q6⟩
section S22
variable {g : zG} {l : Launch} {d : Nat} {I : Nat → Nat → Int32} {L : Nat → Nat → Int64} {fs : Nat × Nat × Option Nat} {ns nt nh h r : Nat}
theorem sp_X7_read (hd : 6 ≤ d) (hK : zSky I ns nt nh) (hr : zShf r) (hr1 : 42 ≤ r) (hr2 : r < 54) {n : Nat} (hn : I r 2 = nI n) (hn2 : n ≤ 60) (hh : h = 54 ∨ h = 59) {pg : Option (List zLine)} (hlw : zLawOk I h pg) :
    zSp g l d 100 m_X7_read [.ref 24, .ref r, .ref 1, .ref h] (zU I L fs) (zV (fun w => ∃ J, w = zU J L fs ∧ zPJ I L ns r h pg (zPn I L ns nt nh r) J)) := by
  have hns := hK.2.1
  have hnt := hK.2.2.1
  have hw : zLwf h := by rcases hh with rfl | rfl; exact zlw54; exact zlw59
  have hh54 : 54 ≤ h := by omega
  have e0 : zHold ns nt nh 0 = ns := rfl
  have e6 : zHold ns nt nh 6 = nt := rfl
  have loop : ∀ k, k ≤ 10 → ∀ J, zPJ I L ns r h pg k J → zrun (zPok I L ns nt nh r) 10 k = zPn I L ns nt nh r → zA g l d m_X7_read J L fs 52 [(5, .int (nI k)), (4, .int (zPst I L ns r k).1), (0, .ref 24), (1, .ref r), (2, .ref 1), (3, .ref h)] (zV (fun w => ∃ J, w = zU J L fs ∧ zPJ I L ns r h pg (zPn I L ns nt nh r) J)) := by
    refine zloop 10 (fun k hk ih J hJ hx => ?_)
    obtain ⟨hJo, ⟨hJ4, hJ5, hJ6⟩, hJf, hJi⟩ := hJ
    have er : J r = I r := hJo r (by omega) (by omega) (by omega)
    have hK1 : zSky J ns nt nh := zSky_of (hJo 1 (by omega) (by omega) (by omega)) hK
    have et : ∀ i, zTold J L r i = zTold I L r i := fun i => by unfold zTold; rw [er]
    have e2 : (2 : Int32) * nI k = nI (2 * k) := by rw [← pk_mul]; rfl
    refine zIload d_X7_read_52 rfl (q := 54) rfl ?_
    refine zBipush d_X7_read_54 (v := 10) bc_10 (q := 56) rfl ?_
    refine zIcmp_ge d_X7_read_56 (tgt := 224) (q := 59) (by decide) rfl (fun h56 => ?_) (fun h56 => ?_)
    · have e := nle (b := 10) h56
      have ek : k = zPn I L ns nt nh r := by rw [← hx, zrun_end e]
      refine zVret d_X7_read_224 rfl rfl ?_
      exact ⟨rfl, J, rfl, ek ▸ ⟨hJo, ⟨hJ4, hJ5, hJ6⟩, hJf, hJi⟩⟩
    · have hlt := nnle (b := 10) h56
      refine zAloadN d_X7_read_59 rfl rfl (q := 60) rfl ?_
      refine zIconst d_X7_read_60 (v := 2) ic_2 (q := 61) rfl ?_
      refine zIload d_X7_read_61 rfl (q := 63) rfl ?_
      refine zImul d_X7_read_63 (q := 64) rfl ?_
      refine zCallVP d_X7_read_64 ml_X7_39 k_X8_told ki_X8_told ks_X8_told (sp_X8_told (d := d - 1) (by omega) hr (by rw [er]; exact hn) hn2) rfl rfl hr.1 (by decide) rfl (Nat.lt_of_succ_lt hr.2.2.1) (Nat.le_of_ble_eq_true rfl) (by decide) (by omega) zns100 (q := 67) rfl ?_
      rw [et, e2, show zTold I L r (nI (2 * k)) = zPw I L r k from rfl]
      refine zIstore d_X7_read_67 (by decide) rfl (q := 69) rfl ?_
      refine zAloadN d_X7_read_69 rfl rfl (q := 70) rfl ?_
      refine zIconst d_X7_read_70 (v := 2) ic_2 (q := 71) rfl ?_
      refine zIload d_X7_read_71 rfl (q := 73) rfl ?_
      refine zImul d_X7_read_73 (q := 74) rfl ?_
      refine zIconst d_X7_read_74 (v := 1) ic_1 (q := 75) rfl ?_
      refine zIadd d_X7_read_75 (q := 76) rfl ?_
      refine zCallVP d_X7_read_76 ml_X7_39 k_X8_told ki_X8_told ks_X8_told (sp_X8_told (d := d - 1) (by omega) hr (by rw [er]; exact hn) hn2) rfl rfl hr.1 (by decide) rfl (Nat.lt_of_succ_lt hr.2.2.1) (Nat.le_of_ble_eq_true rfl) (by decide) (by omega) zns100 (q := 79) rfl ?_
      rw [et, e2, nI_1, show zTold I L r (nI (2 * k + 1)) = zPb I L r k from rfl]
      refine zIstore d_X7_read_79 (by decide) rfl (q := 81) rfl ?_
      refine zAloadN d_X7_read_81 rfl rfl (q := 82) rfl ?_
      refine zIconst d_X7_read_82 (v := 0) ic_0 (q := 83) rfl ?_
      refine zIload d_X7_read_83 rfl (q := 85) rfl ?_
      refine zCallVP d_X7_read_85 ml_X7_44 k_X9_has ki_X9_has ks_X9_has (sp_X9_has (d := d - 1) (by omega) hK1) rfl rfl sh_1 (by decide) rfl (by decide) (Nat.le_of_ble_eq_true rfl) (by decide) (by omega) zns100 (q := 88) rfl ?_
      refine zIf_eq d_X7_read_88 (tgt := 112) (q := 91) (by decide) rfl (fun h88 => ?_) (fun h88 => ?_)
      · have hc : ¬ zPok I L ns nt nh r k = true := by unfold zPok; rw [decide_eq_true_eq]; exact fun q => bi_0.mp h88 q.1.1
        have ek : k = zPn I L ns nt nh r := by rw [← hx, zrun_f hc]
        refine zVret d_X7_read_112 rfl rfl ?_
        exact ⟨rfl, J, rfl, ek ▸ ⟨hJo, ⟨hJ4, hJ5, hJ6⟩, hJf, hJi⟩⟩
      · refine zAloadN d_X7_read_91 rfl rfl (q := 92) rfl ?_
        refine zBipush d_X7_read_92 (v := 6) bc_6 (q := 94) rfl ?_
        refine zIload d_X7_read_94 rfl (q := 96) rfl ?_
        refine zCallVP d_X7_read_96 ml_X7_44 k_X9_has ki_X9_has ks_X9_has (sp_X9_has (d := d - 1) (by omega) hK1) rfl rfl sh_1 (by decide) rfl (by decide) (Nat.le_of_ble_eq_true rfl) (by decide) (by omega) zns100 (q := 99) rfl ?_
        refine zIf_eq d_X7_read_99 (tgt := 112) (q := 102) (by decide) rfl (fun h99 => ?_) (fun h99 => ?_)
        · have hc : ¬ zPok I L ns nt nh r k = true := by unfold zPok; rw [decide_eq_true_eq]; exact fun q => bi_0.mp h99 q.1.2
          have ek : k = zPn I L ns nt nh r := by rw [← hx, zrun_f hc]
          refine zVret d_X7_read_112 rfl rfl ?_
          exact ⟨rfl, J, rfl, ek ▸ ⟨hJo, ⟨hJ4, hJ5, hJ6⟩, hJf, hJi⟩⟩
        · refine zIload d_X7_read_102 rfl (q := 104) rfl ?_
          refine zIload d_X7_read_104 rfl (q := 106) rfl ?_
          refine zIshr d_X7_read_106 (q := 107) rfl ?_
          refine zIconst d_X7_read_107 (v := 1) ic_1 (q := 108) rfl ?_
          refine zIand d_X7_read_108 (q := 109) rfl ?_
          refine zIf_eq d_X7_read_109 (tgt := 113) (q := 112) (by decide) rfl (fun h109 => ?_) (fun h109 => ?_)
          · have hc : zPok I L ns nt nh r k = true := by unfold zPok; rw [decide_eq_true_eq]; exact ⟨⟨bi_n0.mp h88, bi_n0.mp h99⟩, h109⟩
            rw [zrun_t hlt hc] at hx
            obtain ⟨s, hs, hsw⟩ := zn1 (x := zPw I L r k) (n := ns) (by omega) (bi_n0.mp h88).1 (bi_n0.mp h88).2
            obtain ⟨t, ht, htb⟩ := zn1 (x := zPb I L r k) (n := nt) (by omega) (bi_n0.mp h99).1 (bi_n0.mp h99).2
            have hct : (zPb I L r k).toNatClampNeg = t := by rw [htb]; exact zcl_n (by omega)
            have hcs : (zPw I L r k).toNatClampNeg = s := by rw [hsw]; exact zcl_n (by omega)
            have hfree : J 28 t = (zPst I L ns r k).2.1 t := hJf t (by omega)
            refine zIload d_X7_read_113 rfl (q := 115) rfl ?_
            refine zIconst d_X7_read_115 (v := 1) ic_1 (q := 116) rfl ?_
            refine zIload d_X7_read_116 rfl (q := 118) rfl ?_
            refine zIshl d_X7_read_118 (q := 119) rfl ?_
            refine zIor d_X7_read_119 (q := 120) rfl ?_
            refine zIstore d_X7_read_120 (by decide) rfl (q := 122) rfl ?_
            refine zAloadN d_X7_read_122 rfl rfl (q := 123) rfl ?_
            refine zGetR d_X7_read_123 ff_X7_9 sh_24 (by decide) r_24_0 (q := 126) rfl ?_
            refine zIload d_X7_read_126 rfl (q := 128) rfl ?_
            refine zIload d_X7_read_128 rfl (q := 130) rfl ?_
            refine zIast d_X7_read_130 sh_25 (by decide) rfl (by omega) (q := 131) rfl ?_
            refine zAloadN d_X7_read_131 rfl rfl (q := 132) rfl ?_
            refine zGetR d_X7_read_132 ff_X7_15 sh_24 (by decide) r_24_1 (q := 135) rfl ?_
            refine zIload d_X7_read_135 rfl (q := 137) rfl ?_
            refine zSipush d_X7_read_137 (v := 999) sc_999 (q := 140) rfl ?_
            refine zAloadN d_X7_read_140 rfl rfl (q := 141) rfl ?_
            refine zGetR d_X7_read_141 ff_X7_21 sh_24 (by decide) r_24_3 (q := 144) rfl ?_
            refine zIload d_X7_read_144 rfl (q := 146) rfl ?_
            refine zIald d_X7_read_146 sh_28 (by decide) htb (by omega) (q := 147) rfl ?_
            rw [show (zup J 25 (zup (J 25) k (zPw I L r k))) 28 t = (zPst I L ns r k).2.1 t from hfree]
            refine zMin d_X7_read_147 ml_X7_48 (by omega) (Nat.le_of_ble_eq_true rfl) ⟨Nat.le_refl _, Nat.le_refl _⟩ (q := 150) rfl ?_
            refine zIast d_X7_read_150 sh_26 (by decide) rfl (by omega) (q := 151) rfl ?_
            refine zAloadN d_X7_read_151 rfl rfl (q := 152) rfl ?_
            refine zGetR d_X7_read_152 ff_X7_18 sh_24 (by decide) r_24_2 (q := 155) rfl ?_
            refine zIload d_X7_read_155 rfl (q := 157) rfl ?_
            refine zAloadN d_X7_read_157 rfl rfl (q := 158) rfl ?_
            refine zAloadN d_X7_read_158 rfl rfl (q := 159) rfl ?_
            refine zIload d_X7_read_159 rfl (q := 161) rfl ?_
            refine zIload d_X7_read_161 rfl (q := 163) rfl ?_
            refine zAloadN d_X7_read_163 rfl rfl (q := 164) rfl ?_
            refine zGetR d_X7_read_164 ff_X7_15 sh_24 (by decide) r_24_1 (q := 167) rfl ?_
            refine zIload d_X7_read_167 rfl (q := 169) rfl ?_
            refine zIald d_X7_read_169 sh_26 (by decide) rfl (by omega) (q := 170) rfl ?_
            rw [show (zup (zup J 25 (zup (J 25) k (zPw I L r k))) 26 (zup ((zup J 25 (zup (J 25) k (zPw I L r k))) 26) k (if (zPst I L ns r k).2.1 t < 999 then (zPst I L ns r k).2.1 t else 999))) 26 k = zPmin I L ns r k from (zup_eq (f := J 26)).trans (by unfold zPmin; rw [hct]), hsw, htb]
            obtain ⟨J1, hJ1⟩ : ∃ J1, J1 = zup (zup J 25 (zup (J 25) k (nI s))) 26 (zup ((zup J 25 (zup (J 25) k (nI s))) 26) k (if (zPst I L ns r k).2.1 t < 999 then (zPst I L ns r k).2.1 t else 999)) := ⟨_, rfl⟩
            rw [← hJ1]
            have j1 : ∀ a, a ≠ 25 → a ≠ 26 → J1 a = J a := fun a q1 q2 => by rw [hJ1, zup_ne q2, zup_ne q1]
            have j1I : ∀ a, ¬ (24 ≤ a ∧ a ≤ 28) → a ≠ h + 3 → a ≠ h + 4 → J1 a = I a := fun a q1 q2 q3 => by rw [j1 a (by omega) (by omega)]; exact hJo a q1 q2 q3
            have hEn : zEn J1 s t (zPmin I L ns r k) = zEn I s t (zPmin I L ns r k) := by unfold zEn; rw [j1I 9 (by omega) (by omega) (by omega), j1I 5 (by omega) (by omega) (by omega), j1I 4 (by omega) (by omega) (by omega), j1I 3 (by omega) (by omega) (by omega), j1I 6 (by omega) (by omega) (by omega)]
            refine zCallVX d_X7_read_170 ml_X7_53 k_X6_oddsOf ki_X6_oddsOf ks_X6_oddsOf (sp_X6_oddsOf (d := d - 1) (by omega) (zSky_of (j1I 1 (by omega) (by omega) (by omega)) hK) hw (zLawOk_ex (j1I h (by omega) (by omega) (by omega)) (j1I (h + 1) (by omega) (by omega) (by omega)) (j1I (h + 2) (by omega) (by omega) (by omega)) hlw) hs ht) rfl rfl hw.1 (by decide) rfl (zlt4 hw) (Nat.le_of_ble_eq_true rfl) (by decide) (by omega) zns100 (q := 173) rfl (fun x w' hw' => ?_)
            obtain ⟨hxv, F, G, rfl⟩ := hw'
            rw [hEn] at hxv
            have hxo : x = zPod I L ns r pg k := by rw [hxv]; unfold zPod; rw [hcs, hct]
            obtain ⟨J2, hJ2⟩ : ∃ J2, J2 = zup (zup J1 (h + 4) F) (h + 3) G := ⟨_, rfl⟩
            refine zCastI hJ2 ?_
            have j2 : ∀ a, a ≠ h + 3 → a ≠ h + 4 → J2 a = J1 a := fun a q1 q2 => by rw [hJ2, zup_ne q1, zup_ne q2]
            refine zIast d_X7_read_173 sh_27 (by decide) rfl (by omega) (q := 174) rfl ?_
            refine zAloadN d_X7_read_174 rfl rfl (q := 175) rfl ?_
            refine zGetR d_X7_read_175 ff_X7_21 sh_24 (by decide) r_24_3 (q := 178) rfl ?_
            refine zIload d_X7_read_178 rfl (q := 180) rfl ?_
            refine zDup2 d_X7_read_180 rfl rfl (q := 181) rfl ?_
            refine zIald d_X7_read_181 sh_28 (by decide) rfl (by omega) (q := 182) rfl ?_
            rw [show (zup J2 27 (zup (J2 27) k x)) 28 t = (zPst I L ns r k).2.1 t from ((congrFun (j2 28 (by omega) (by omega)) t).trans (congrFun (j1 28 (by omega) (by omega)) t)).trans hfree]
            refine zAloadN d_X7_read_182 rfl rfl (q := 183) rfl ?_
            refine zBipush d_X7_read_183 (v := 7) bc_7 (q := 185) rfl ?_
            refine zIload d_X7_read_185 rfl (q := 187) rfl ?_
            refine zCallVP d_X7_read_187 ml_X7_32 k_X9_get ki_X9_get ks_X9_get (sp_get7 (d := d - 1) (I := zup J2 27 (zup (J2 27) k x)) (by omega) (zSky_of ((j2 1 (by omega) (by omega)).trans (j1I 1 (by omega) (by omega) (by omega))) hK) ht) rfl rfl sh_1 (by decide) rfl (by decide) (Nat.le_of_ble_eq_true rfl) (by decide) (by omega) zns100 (q := 190) rfl ?_
            rw [show (zup J2 27 (zup (J2 27) k x)) 10 t = I 10 t from congrFun ((j2 10 (by omega) (by omega)).trans (j1I 10 (by omega) (by omega) (by omega))) t]
            refine zIadd d_X7_read_190 (q := 191) rfl ?_
            refine zIast d_X7_read_191 sh_28 (by decide) rfl (by omega) (q := 192) rfl ?_
            refine zAloadN d_X7_read_192 rfl rfl (q := 193) rfl ?_
            refine zAloadN d_X7_read_193 rfl rfl (q := 194) rfl ?_
            refine zGetI d_X7_read_194 ff_X7_36 sh_24 (by decide) (q := 197) rfl ?_
            refine zAloadN d_X7_read_197 rfl rfl (q := 198) rfl ?_
            refine zGetR d_X7_read_198 ff_X7_21 sh_24 (by decide) r_24_3 (q := 201) rfl ?_
            refine zIload d_X7_read_201 rfl (q := 203) rfl ?_
            refine zIald d_X7_read_203 sh_28 (by decide) rfl (by omega) (q := 204) rfl ?_
            rw [show (zup (zup J2 27 (zup (J2 27) k x)) 28 (zup ((zup J2 27 (zup (J2 27) k x)) 28) t ((zPst I L ns r k).2.1 t + I 10 t))) 24 5 = (zPst I L ns r k).2.2 from ((congrFun (j2 24 (by omega) (by omega)) 5).trans (congrFun (j1 24 (by omega) (by omega)) 5)).trans hJ5]
            rw [show (zup (zup J2 27 (zup (J2 27) k x)) 28 (zup ((zup J2 27 (zup (J2 27) k x)) 28) t ((zPst I L ns r k).2.1 t + I 10 t))) 28 t = (zPst I L ns r k).2.1 t + I 10 t from by rw [zup_eq, zup_eq]]
            refine zMax d_X7_read_204 ml_X7_59 (by omega) (Nat.le_of_ble_eq_true rfl) ⟨Nat.le_refl _, Nat.le_refl _⟩ (q := 207) rfl ?_
            refine zPutI d_X7_read_207 ff_X7_36 rfl rfl rfl sh_24 (by decide) (q := 210) rfl ?_
            refine zAloadN d_X7_read_210 rfl rfl (q := 211) rfl ?_
            refine zIload d_X7_read_211 rfl (q := 213) rfl ?_
            refine zIconst d_X7_read_213 (v := 1) ic_1 (q := 214) rfl ?_
            refine zIadd d_X7_read_214 (q := 215) rfl ?_
            refine zPutI d_X7_read_215 ff_X7_28 rfl rfl rfl sh_24 (by decide) (q := 218) rfl ?_
            refine zIinc d_X7_read_218 rfl (zinc _) (by decide) rfl (q := 221) rfl ?_
            refine zGoto d_X7_read_221 (q := 52) (by decide) ?_
            refine zSub [0, 1, 4, 5, 6, 7] rfl ?_
            rw [nI_1]
            have es1 : (zPst I L ns r (k + 1)).1 = (zPst I L ns r k).1 ||| ((1 : Int32) <<< (nI s &&& 31)) := by rw [← hsw]; rfl
            have es2 : (zPst I L ns r (k + 1)).2.1 = zup (zPst I L ns r k).2.1 t ((zPst I L ns r k).2.1 t + I 10 t) := by rw [← hct]; rfl
            have es3 : (zPst I L ns r (k + 1)).2.2 = if (zPst I L ns r k).2.2 < (zPst I L ns r k).2.1 t + I 10 t then (zPst I L ns r k).2.1 t + I 10 t else (zPst I L ns r k).2.2 := by rw [← hct]; rfl
            rw [← es1]
            refine ih hlt _ ⟨fun a q1 q2 q3 => ?_, ⟨?_, ?_, ?_⟩, fun b hb => ?_, fun i hi => ?_⟩ hx
            · rw [zup_ne (by omega), zup_ne (by omega), zup_ne (by omega), zup_ne (by omega), j2 a q2 q3]
              exact j1I a q1 q2 q3
            · rfl
            · rw [es3]; rfl
            · exact ((congrFun (j2 24 (by omega) (by omega)) 6).trans (congrFun (j1 24 (by omega) (by omega)) 6)).trans hJ6
            · show (zup ((zup J2 27 (zup (J2 27) k x)) 28) t ((zPst I L ns r k).2.1 t + I 10 t)) b = _
              rw [es2]
              by_cases q : b = t
              · subst q; rw [zup_eq, zup_eq]
              · rw [zup_ne q, zup_ne q]
                exact ((congrFun (j2 28 (by omega) (by omega)) b).trans (congrFun (j1 28 (by omega) (by omega)) b)).trans (hJf b hb)
            · have a25 : J2 25 = zup (J 25) k (nI s) := (j2 25 (by omega) (by omega)).trans (by rw [hJ1]; rfl)
              have a26 : J2 26 = zup (J 26) k (if (zPst I L ns r k).2.1 t < 999 then (zPst I L ns r k).2.1 t else 999) := (j2 26 (by omega) (by omega)).trans (by rw [hJ1]; rfl)
              have a27 : J2 27 = J 27 := (j2 27 (by omega) (by omega)).trans (j1 27 (by omega) (by omega))
              show J2 25 i = _ ∧ J2 26 i = _ ∧ (zup (J2 27) k x) i = _
              rw [a25, a26, a27]
              by_cases q : i = k
              · subst q
                rw [zup_eq, zup_eq, zup_eq]
                exact ⟨hsw.symm, by unfold zPmin; rw [hct], hxo⟩
              · rw [zup_ne q, zup_ne q, zup_ne q]
                exact hJi i (by omega)
          · have hc : ¬ zPok I L ns nt nh r k = true := by unfold zPok; rw [decide_eq_true_eq]; exact fun q => h109 q.2
            have ek : k = zPn I L ns nt nh r := by rw [← hx, zrun_f hc]
            refine zVret d_X7_read_112 rfl rfl ?_
            exact ⟨rfl, J, rfl, ek ▸ ⟨hJo, ⟨hJ4, hJ5, hJ6⟩, hJf, hJi⟩⟩
  have loop1 : ∀ k, k ≤ 4 → ∀ J, ((∀ a, ¬ (24 ≤ a ∧ a ≤ 28) → a ≠ h + 3 → a ≠ h + 4 → J a = I a) ∧ (J 24 4 = 0 ∧ J 24 5 = I 12 0 ∧ J 24 6 = I 24 6) ∧ ∀ b, b < k → J 28 b = I 12 0) → zA g l d m_X7_read J L fs 26 [(5, .int (nI k)), (4, .int (zbits (I 8) ns)), (0, .ref 24), (1, .ref r), (2, .ref 1), (3, .ref h)] (zV (fun w => ∃ J, w = zU J L fs ∧ zPJ I L ns r h pg (zPn I L ns nt nh r) J)) := by
    refine zloop 4 (fun k hk ih J hJ => ?_)
    refine zIload d_X7_read_26 rfl (q := 28) rfl ?_
    refine zIconst d_X7_read_28 (v := 4) ic_4 (q := 29) rfl ?_
    refine zIcmp_ge d_X7_read_29 (tgt := 49) (q := 32) (by decide) rfl (fun h29 => ?_) (fun h29 => ?_)
    · have e := nle (b := 4) h29
      refine zIconst d_X7_read_49 (v := 0) ic_0 (q := 50) rfl ?_
      refine zIstore d_X7_read_50 (by decide) rfl (q := 52) rfl ?_
      refine zSub [0, 1, 2, 3, 4, 5] rfl ?_
      exact loop 0 (Nat.zero_le _) J ⟨hJ.1, hJ.2.1, fun b hb => hJ.2.2 b (by omega), fun i hi => by omega⟩ rfl
    · have hlt := nnle (b := 4) h29
      refine zAloadN d_X7_read_32 rfl rfl (q := 33) rfl ?_
      refine zGetR d_X7_read_33 ff_X7_21 sh_24 (by decide) r_24_3 (q := 36) rfl ?_
      refine zIload d_X7_read_36 rfl (q := 38) rfl ?_
      refine zAloadN d_X7_read_38 rfl rfl (q := 39) rfl ?_
      refine zGetI d_X7_read_39 ff_X7_36 sh_24 (by decide) (q := 42) rfl ?_
      refine zIast d_X7_read_42 sh_28 (by decide) rfl (by omega) (q := 43) rfl ?_
      refine zIinc d_X7_read_43 rfl (zinc _) (by decide) rfl (q := 46) rfl ?_
      refine zGoto d_X7_read_46 (q := 26) (by decide) ?_
      refine zSub [0, 1, 2, 3, 4, 5] rfl ?_
      refine ih hlt _ ⟨fun a q1 q2 q3 => by rw [zup_ne (by omega)]; exact hJ.1 a q1 q2 q3, hJ.2.1, fun b hb => ?_⟩
      show (zup (J 28) k (J 24 5)) b = _
      by_cases q : b = k
      · subst q; rw [zup_eq]; exact hJ.2.1.2.1
      · rw [zup_ne q]; exact hJ.2.2 b (by omega)
  refine zSp_of (lv := [(0, .ref 24), (1, .ref r), (2, .ref 1), (3, .ref h)]) k_X7_read rfl (Nat.le_of_ble_eq_true rfl) ?_
  refine zAloadN d_X7_read_0 rfl rfl (q := 1) rfl ?_
  refine zIconst d_X7_read_1 (v := 5) ic_5 (q := 2) rfl ?_
  refine zCallVP d_X7_read_2 ml_X7_24 k_X9_bits ki_X9_bits ks_X9_bits (sp_X9_bits5 (d := d - 1) (by omega) hK) rfl rfl sh_1 (by decide) rfl (by decide) (Nat.le_of_ble_eq_true rfl) (by decide) (by omega) zns100 (q := 5) rfl ?_
  refine zIstore d_X7_read_5 (by decide) rfl (q := 7) rfl ?_
  refine zAloadN d_X7_read_7 rfl rfl (q := 8) rfl ?_
  refine zIconst d_X7_read_8 (v := 0) ic_0 (q := 9) rfl ?_
  refine zPutI d_X7_read_9 ff_X7_28 rfl rfl rfl sh_24 (by decide) (q := 12) rfl ?_
  refine zAloadN d_X7_read_12 rfl rfl (q := 13) rfl ?_
  refine zAloadN d_X7_read_13 rfl rfl (q := 14) rfl ?_
  refine zBipush d_X7_read_14 (v := 9) bc_9 (q := 16) rfl ?_
  refine zIconst d_X7_read_16 (v := 0) ic_0 (q := 17) rfl ?_
  refine zCallVP d_X7_read_17 ml_X7_32 k_X9_get ki_X9_get ks_X9_get (sp_get9 (d := d - 1) (by omega) (zSky_up (a := 24) hK (by decide))) rfl rfl sh_1 (by decide) rfl (by decide) (Nat.le_of_ble_eq_true rfl) (by decide) (by omega) zns100 (q := 20) rfl ?_
  refine zPutI d_X7_read_20 ff_X7_36 rfl rfl rfl sh_24 (by decide) (q := 23) rfl ?_
  refine zIconst d_X7_read_23 (v := 0) ic_0 (q := 24) rfl ?_
  refine zIstore d_X7_read_24 (by decide) rfl (q := 26) rfl ?_
  refine zSub [0, 1, 2, 3, 4, 5] rfl ?_
  exact loop1 0 (Nat.zero_le _) _ ⟨fun a q1 _ _ => by rw [zup_ne (by omega), zup_ne (by omega)], ⟨rfl, rfl, rfl⟩, fun b hb => by omega⟩
end S22

