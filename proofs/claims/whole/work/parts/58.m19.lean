theorem d_X12_dealt_0 : decode (zmc m_X12_dealt) 0 = .ok (.iload_n 1, 1) := by decide +kernel
theorem d_X12_dealt_1 : decode (zmc m_X12_dealt) 1 = .ok (.iconst (-1), 1) := by decide +kernel
theorem d_X12_dealt_2 : decode (zmc m_X12_dealt) 2 = .ok (.if_icmp .ge 5, 3) := by decide +kernel
theorem d_X12_dealt_5 : decode (zmc m_X12_dealt) 5 = .ok (.iconst (-1), 1) := by decide +kernel
theorem d_X12_dealt_6 : decode (zmc m_X12_dealt) 6 = .ok (.ireturn, 1) := by decide +kernel
theorem d_X12_dealt_7 : decode (zmc m_X12_dealt) 7 = .ok (.aload_n 0, 1) := by decide +kernel
theorem d_X12_dealt_8 : decode (zmc m_X12_dealt) 8 = .ok (.getfield 131, 3) := by decide +kernel
theorem d_X12_dealt_11 : decode (zmc m_X12_dealt) 11 = .ok (.ifCond .ne 6, 3) := by decide +kernel
theorem d_X12_dealt_14 : decode (zmc m_X12_dealt) 14 = .ok (.bipush (-2), 2) := by decide +kernel
theorem d_X12_dealt_16 : decode (zmc m_X12_dealt) 16 = .ok (.ireturn, 1) := by decide +kernel
theorem d_X12_dealt_17 : decode (zmc m_X12_dealt) 17 = .ok (.aload_n 0, 1) := by decide +kernel
theorem d_X12_dealt_18 : decode (zmc m_X12_dealt) 18 = .ok (.invokevirtual 297, 3) := by decide +kernel
theorem d_X12_dealt_21 : decode (zmc m_X12_dealt) 21 = .ok (.istore_n 2, 1) := by decide +kernel
theorem d_X12_dealt_22 : decode (zmc m_X12_dealt) 22 = .ok (.iload_n 2, 1) := by decide +kernel
theorem d_X12_dealt_23 : decode (zmc m_X12_dealt) 23 = .ok (.bipush 6, 2) := by decide +kernel
theorem d_X12_dealt_25 : decode (zmc m_X12_dealt) 25 = .ok (.if_icmp .le 6, 3) := by decide +kernel
theorem d_X12_dealt_28 : decode (zmc m_X12_dealt) 28 = .ok (.bipush (-5), 2) := by decide +kernel
theorem d_X12_dealt_30 : decode (zmc m_X12_dealt) 30 = .ok (.ireturn, 1) := by decide +kernel
theorem d_X12_dealt_31 : decode (zmc m_X12_dealt) 31 = .ok (.iconst 1, 1) := by decide +kernel
theorem d_X12_dealt_32 : decode (zmc m_X12_dealt) 32 = .ok (.istore_n 3, 1) := by decide +kernel
theorem d_X12_dealt_33 : decode (zmc m_X12_dealt) 33 = .ok (.iconst 0, 1) := by decide +kernel
theorem d_X12_dealt_34 : decode (zmc m_X12_dealt) 34 = .ok (.istore 4, 2) := by decide +kernel
theorem d_X12_dealt_36 : decode (zmc m_X12_dealt) 36 = .ok (.iload 4, 2) := by decide +kernel
theorem d_X12_dealt_38 : decode (zmc m_X12_dealt) 38 = .ok (.iload_n 2, 1) := by decide +kernel
theorem d_X12_dealt_39 : decode (zmc m_X12_dealt) 39 = .ok (.if_icmp .ge 16, 3) := by decide +kernel
theorem d_X12_dealt_42 : decode (zmc m_X12_dealt) 42 = .ok (.iload_n 3, 1) := by decide +kernel
theorem d_X12_dealt_43 : decode (zmc m_X12_dealt) 43 = .ok (.aload_n 0, 1) := by decide +kernel
theorem d_X12_dealt_44 : decode (zmc m_X12_dealt) 44 = .ok (.getfield 131, 3) := by decide +kernel
theorem d_X12_dealt_47 : decode (zmc m_X12_dealt) 47 = .ok (.imul, 1) := by decide +kernel
theorem d_X12_dealt_48 : decode (zmc m_X12_dealt) 48 = .ok (.istore_n 3, 1) := by decide +kernel
theorem d_X12_dealt_49 : decode (zmc m_X12_dealt) 49 = .ok (.iinc 4 1, 3) := by decide +kernel
theorem d_X12_dealt_52 : decode (zmc m_X12_dealt) 52 = .ok (.goto (-16), 3) := by decide +kernel
theorem d_X12_dealt_55 : decode (zmc m_X12_dealt) 55 = .ok (.iconst 0, 1) := by decide +kernel
theorem d_X12_dealt_56 : decode (zmc m_X12_dealt) 56 = .ok (.istore 4, 2) := by decide +kernel
theorem d_X12_dealt_58 : decode (zmc m_X12_dealt) 58 = .ok (.iconst 1, 1) := by decide +kernel
theorem d_X12_dealt_59 : decode (zmc m_X12_dealt) 59 = .ok (.istore 5, 2) := by decide +kernel
theorem d_X12_dealt_61 : decode (zmc m_X12_dealt) 61 = .ok (.iload 5, 2) := by decide +kernel
theorem d_X12_dealt_63 : decode (zmc m_X12_dealt) 63 = .ok (.iload_n 3, 1) := by decide +kernel
theorem d_X12_dealt_64 : decode (zmc m_X12_dealt) 64 = .ok (.if_icmp .ge 30, 3) := by decide +kernel
theorem d_X12_dealt_67 : decode (zmc m_X12_dealt) 67 = .ok (.aload_n 0, 1) := by decide +kernel
theorem d_X12_dealt_68 : decode (zmc m_X12_dealt) 68 = .ok (.iload 5, 2) := by decide +kernel
theorem d_X12_dealt_70 : decode (zmc m_X12_dealt) 70 = .ok (.iload_n 2, 1) := by decide +kernel
theorem d_X12_dealt_71 : decode (zmc m_X12_dealt) 71 = .ok (.invokevirtual 300, 3) := by decide +kernel
theorem d_X12_dealt_74 : decode (zmc m_X12_dealt) 74 = .ok (.aload_n 0, 1) := by decide +kernel
theorem d_X12_dealt_75 : decode (zmc m_X12_dealt) 75 = .ok (.iload 4, 2) := by decide +kernel
theorem d_X12_dealt_77 : decode (zmc m_X12_dealt) 77 = .ok (.iload_n 2, 1) := by decide +kernel
theorem d_X12_dealt_78 : decode (zmc m_X12_dealt) 78 = .ok (.invokevirtual 300, 3) := by decide +kernel
theorem d_X12_dealt_81 : decode (zmc m_X12_dealt) 81 = .ok (.if_icmp .ge 7, 3) := by decide +kernel
theorem d_X12_dealt_84 : decode (zmc m_X12_dealt) 84 = .ok (.iload 5, 2) := by decide +kernel
theorem d_X12_dealt_86 : decode (zmc m_X12_dealt) 86 = .ok (.istore 4, 2) := by decide +kernel
theorem d_X12_dealt_88 : decode (zmc m_X12_dealt) 88 = .ok (.iinc 5 1, 3) := by decide +kernel
theorem d_X12_dealt_91 : decode (zmc m_X12_dealt) 91 = .ok (.goto (-30), 3) := by decide +kernel
theorem d_X12_dealt_94 : decode (zmc m_X12_dealt) 94 = .ok (.iload_n 1, 1) := by decide +kernel
theorem d_X12_dealt_95 : decode (zmc m_X12_dealt) 95 = .ok (.ifCond .ge 11, 3) := by decide +kernel
theorem d_X12_dealt_98 : decode (zmc m_X12_dealt) 98 = .ok (.aload_n 0, 1) := by decide +kernel
theorem d_X12_dealt_99 : decode (zmc m_X12_dealt) 99 = .ok (.iload 4, 2) := by decide +kernel
theorem d_X12_dealt_101 : decode (zmc m_X12_dealt) 101 = .ok (.iload_n 2, 1) := by decide +kernel
theorem d_X12_dealt_102 : decode (zmc m_X12_dealt) 102 = .ok (.invokevirtual 300, 3) := by decide +kernel
theorem d_X12_dealt_105 : decode (zmc m_X12_dealt) 105 = .ok (.ireturn, 1) := by decide +kernel
theorem d_X12_dealt_106 : decode (zmc m_X12_dealt) 106 = .ok (.iload_n 1, 1) := by decide +kernel
theorem d_X12_dealt_107 : decode (zmc m_X12_dealt) 107 = .ok (.iload_n 2, 1) := by decide +kernel
theorem d_X12_dealt_108 : decode (zmc m_X12_dealt) 108 = .ok (.if_icmp .lt 6, 3) := by decide +kernel
theorem d_X12_dealt_111 : decode (zmc m_X12_dealt) 111 = .ok (.bipush (-2), 2) := by decide +kernel
theorem d_X12_dealt_113 : decode (zmc m_X12_dealt) 113 = .ok (.ireturn, 1) := by decide +kernel
theorem d_X12_dealt_114 : decode (zmc m_X12_dealt) 114 = .ok (.iload_n 2, 1) := by decide +kernel
theorem d_X12_dealt_115 : decode (zmc m_X12_dealt) 115 = .ok (.iconst 1, 1) := by decide +kernel
theorem d_X12_dealt_116 : decode (zmc m_X12_dealt) 116 = .ok (.isub, 1) := by decide +kernel
theorem d_X12_dealt_117 : decode (zmc m_X12_dealt) 117 = .ok (.istore 5, 2) := by decide +kernel
theorem d_X12_dealt_119 : decode (zmc m_X12_dealt) 119 = .ok (.iload 5, 2) := by decide +kernel
theorem d_X12_dealt_121 : decode (zmc m_X12_dealt) 121 = .ok (.iload_n 1, 1) := by decide +kernel
theorem d_X12_dealt_122 : decode (zmc m_X12_dealt) 122 = .ok (.if_icmp .le 18, 3) := by decide +kernel
theorem d_X12_dealt_125 : decode (zmc m_X12_dealt) 125 = .ok (.iload 4, 2) := by decide +kernel
theorem d_X12_dealt_127 : decode (zmc m_X12_dealt) 127 = .ok (.aload_n 0, 1) := by decide +kernel
theorem d_X12_dealt_128 : decode (zmc m_X12_dealt) 128 = .ok (.getfield 131, 3) := by decide +kernel
theorem d_X12_dealt_131 : decode (zmc m_X12_dealt) 131 = .ok (.idiv, 1) := by decide +kernel
theorem d_X12_dealt_132 : decode (zmc m_X12_dealt) 132 = .ok (.istore 4, 2) := by decide +kernel
theorem d_X12_dealt_134 : decode (zmc m_X12_dealt) 134 = .ok (.iinc 5 (-1), 3) := by decide +kernel
theorem d_X12_dealt_137 : decode (zmc m_X12_dealt) 137 = .ok (.goto (-18), 3) := by decide +kernel
theorem d_X12_dealt_140 : decode (zmc m_X12_dealt) 140 = .ok (.iload 4, 2) := by decide +kernel
theorem d_X12_dealt_142 : decode (zmc m_X12_dealt) 142 = .ok (.aload_n 0, 1) := by decide +kernel
theorem d_X12_dealt_143 : decode (zmc m_X12_dealt) 143 = .ok (.getfield 131, 3) := by decide +kernel
theorem d_X12_dealt_146 : decode (zmc m_X12_dealt) 146 = .ok (.irem, 1) := by decide +kernel
theorem d_X12_dealt_147 : decode (zmc m_X12_dealt) 147 = .ok (.ireturn, 1) := by decide +kernel
theorem d_X12_minutesBy_0 : decode (zmc m_X12_minutesBy) 0 = .ok (.iconst 0, 1) := by decide +kernel
theorem d_X12_minutesBy_1 : decode (zmc m_X12_minutesBy) 1 = .ok (.istore_n 3, 1) := by decide +kernel
theorem d_X12_minutesBy_2 : decode (zmc m_X12_minutesBy) 2 = .ok (.iload_n 3, 1) := by decide +kernel
theorem d_X12_minutesBy_3 : decode (zmc m_X12_minutesBy) 3 = .ok (.aload_n 0, 1) := by decide +kernel
theorem d_X12_minutesBy_4 : decode (zmc m_X12_minutesBy) 4 = .ok (.getfield 131, 3) := by decide +kernel
theorem d_X12_minutesBy_7 : decode (zmc m_X12_minutesBy) 7 = .ok (.if_icmp .ge 16, 3) := by decide +kernel
theorem d_X12_minutesBy_10 : decode (zmc m_X12_minutesBy) 10 = .ok (.aload_n 0, 1) := by decide +kernel
theorem d_X12_minutesBy_11 : decode (zmc m_X12_minutesBy) 11 = .ok (.getfield 92, 3) := by decide +kernel
theorem d_X12_minutesBy_14 : decode (zmc m_X12_minutesBy) 14 = .ok (.iload_n 3, 1) := by decide +kernel
theorem d_X12_minutesBy_15 : decode (zmc m_X12_minutesBy) 15 = .ok (.iconst 0, 1) := by decide +kernel
theorem d_X12_minutesBy_16 : decode (zmc m_X12_minutesBy) 16 = .ok (.iastore, 1) := by decide +kernel
theorem d_X12_minutesBy_17 : decode (zmc m_X12_minutesBy) 17 = .ok (.iinc 3 1, 3) := by decide +kernel
theorem d_X12_minutesBy_20 : decode (zmc m_X12_minutesBy) 20 = .ok (.goto (-18), 3) := by decide +kernel
theorem d_X12_minutesBy_23 : decode (zmc m_X12_minutesBy) 23 = .ok (.iload_n 1, 1) := by decide +kernel
theorem d_X12_minutesBy_24 : decode (zmc m_X12_minutesBy) 24 = .ok (.istore_n 3, 1) := by decide +kernel
theorem d_X12_minutesBy_25 : decode (zmc m_X12_minutesBy) 25 = .ok (.iconst 0, 1) := by decide +kernel
theorem d_X12_minutesBy_26 : decode (zmc m_X12_minutesBy) 26 = .ok (.istore 4, 2) := by decide +kernel
theorem d_X12_minutesBy_28 : decode (zmc m_X12_minutesBy) 28 = .ok (.iload 4, 2) := by decide +kernel
theorem d_X12_minutesBy_30 : decode (zmc m_X12_minutesBy) 30 = .ok (.iload_n 2, 1) := by decide +kernel
theorem d_X12_minutesBy_31 : decode (zmc m_X12_minutesBy) 31 = .ok (.if_icmp .ge 41, 3) := by decide +kernel
theorem d_X12_minutesBy_34 : decode (zmc m_X12_minutesBy) 34 = .ok (.iload_n 3, 1) := by decide +kernel
theorem d_X12_minutesBy_35 : decode (zmc m_X12_minutesBy) 35 = .ok (.aload_n 0, 1) := by decide +kernel
theorem d_X12_minutesBy_36 : decode (zmc m_X12_minutesBy) 36 = .ok (.getfield 131, 3) := by decide +kernel
theorem d_X12_minutesBy_39 : decode (zmc m_X12_minutesBy) 39 = .ok (.irem, 1) := by decide +kernel
theorem d_X12_minutesBy_40 : decode (zmc m_X12_minutesBy) 40 = .ok (.istore 5, 2) := by decide +kernel
theorem d_X12_minutesBy_42 : decode (zmc m_X12_minutesBy) 42 = .ok (.aload_n 0, 1) := by decide +kernel
theorem d_X12_minutesBy_43 : decode (zmc m_X12_minutesBy) 43 = .ok (.getfield 92, 3) := by decide +kernel
theorem d_X12_minutesBy_46 : decode (zmc m_X12_minutesBy) 46 = .ok (.iload 5, 2) := by decide +kernel
theorem d_X12_minutesBy_48 : decode (zmc m_X12_minutesBy) 48 = .ok (.dup2, 1) := by decide +kernel
theorem d_X12_minutesBy_49 : decode (zmc m_X12_minutesBy) 49 = .ok (.iaload, 1) := by decide +kernel
theorem d_X12_minutesBy_50 : decode (zmc m_X12_minutesBy) 50 = .ok (.aload_n 0, 1) := by decide +kernel
theorem d_X12_minutesBy_51 : decode (zmc m_X12_minutesBy) 51 = .ok (.getfield 33, 3) := by decide +kernel
theorem d_X12_minutesBy_54 : decode (zmc m_X12_minutesBy) 54 = .ok (.iload 5, 2) := by decide +kernel
theorem d_X12_minutesBy_56 : decode (zmc m_X12_minutesBy) 56 = .ok (.iaload, 1) := by decide +kernel
theorem d_X12_minutesBy_57 : decode (zmc m_X12_minutesBy) 57 = .ok (.iadd, 1) := by decide +kernel
theorem d_X12_minutesBy_58 : decode (zmc m_X12_minutesBy) 58 = .ok (.iastore, 1) := by decide +kernel
theorem d_X12_minutesBy_59 : decode (zmc m_X12_minutesBy) 59 = .ok (.iload_n 3, 1) := by decide +kernel
theorem d_X12_minutesBy_60 : decode (zmc m_X12_minutesBy) 60 = .ok (.aload_n 0, 1) := by decide +kernel
theorem d_X12_minutesBy_61 : decode (zmc m_X12_minutesBy) 61 = .ok (.getfield 131, 3) := by decide +kernel
theorem d_X12_minutesBy_64 : decode (zmc m_X12_minutesBy) 64 = .ok (.idiv, 1) := by decide +kernel
theorem d_X12_minutesBy_65 : decode (zmc m_X12_minutesBy) 65 = .ok (.istore_n 3, 1) := by decide +kernel
theorem d_X12_minutesBy_66 : decode (zmc m_X12_minutesBy) 66 = .ok (.iinc 4 1, 3) := by decide +kernel
theorem d_X12_minutesBy_69 : decode (zmc m_X12_minutesBy) 69 = .ok (.goto (-41), 3) := by decide +kernel
theorem d_X12_minutesBy_72 : decode (zmc m_X12_minutesBy) 72 = .ok (.iconst 0, 1) := by decide +kernel
theorem d_X12_minutesBy_73 : decode (zmc m_X12_minutesBy) 73 = .ok (.istore 4, 2) := by decide +kernel
theorem d_X12_minutesBy_75 : decode (zmc m_X12_minutesBy) 75 = .ok (.iconst 0, 1) := by decide +kernel
theorem d_X12_minutesBy_76 : decode (zmc m_X12_minutesBy) 76 = .ok (.istore 5, 2) := by decide +kernel
theorem d_X12_minutesBy_78 : decode (zmc m_X12_minutesBy) 78 = .ok (.iload 5, 2) := by decide +kernel
theorem d_X12_minutesBy_80 : decode (zmc m_X12_minutesBy) 80 = .ok (.aload_n 0, 1) := by decide +kernel
theorem d_X12_minutesBy_81 : decode (zmc m_X12_minutesBy) 81 = .ok (.getfield 131, 3) := by decide +kernel
theorem d_X12_minutesBy_84 : decode (zmc m_X12_minutesBy) 84 = .ok (.if_icmp .ge 30, 3) := by decide +kernel
theorem d_X12_minutesBy_87 : decode (zmc m_X12_minutesBy) 87 = .ok (.aload_n 0, 1) := by decide +kernel
theorem d_X12_minutesBy_88 : decode (zmc m_X12_minutesBy) 88 = .ok (.getfield 92, 3) := by decide +kernel
theorem d_X12_minutesBy_91 : decode (zmc m_X12_minutesBy) 91 = .ok (.iload 5, 2) := by decide +kernel
theorem d_X12_minutesBy_93 : decode (zmc m_X12_minutesBy) 93 = .ok (.iaload, 1) := by decide +kernel
theorem d_X12_minutesBy_94 : decode (zmc m_X12_minutesBy) 94 = .ok (.iload 4, 2) := by decide +kernel
theorem d_X12_minutesBy_96 : decode (zmc m_X12_minutesBy) 96 = .ok (.if_icmp .le 12, 3) := by decide +kernel
theorem d_X12_minutesBy_99 : decode (zmc m_X12_minutesBy) 99 = .ok (.aload_n 0, 1) := by decide +kernel
theorem d_X12_minutesBy_100 : decode (zmc m_X12_minutesBy) 100 = .ok (.getfield 92, 3) := by decide +kernel
theorem d_X12_minutesBy_103 : decode (zmc m_X12_minutesBy) 103 = .ok (.iload 5, 2) := by decide +kernel
theorem d_X12_minutesBy_105 : decode (zmc m_X12_minutesBy) 105 = .ok (.iaload, 1) := by decide +kernel
theorem d_X12_minutesBy_106 : decode (zmc m_X12_minutesBy) 106 = .ok (.istore 4, 2) := by decide +kernel
theorem d_X12_minutesBy_108 : decode (zmc m_X12_minutesBy) 108 = .ok (.iinc 5 1, 3) := by decide +kernel
theorem d_X12_minutesBy_111 : decode (zmc m_X12_minutesBy) 111 = .ok (.goto (-33), 3) := by decide +kernel
theorem d_X12_minutesBy_114 : decode (zmc m_X12_minutesBy) 114 = .ok (.iload 4, 2) := by decide +kernel
theorem d_X12_minutesBy_116 : decode (zmc m_X12_minutesBy) 116 = .ok (.ireturn, 1) := by decide +kernel
/-! THE REFERENCE: dealt -/
def ySp (V : Nat → Nat → Int32) (t : Nat) : Nat := (V 10 t).toNatClampNeg
theorem ySp_in {V : Nat → Nat → Int32} {ns nt nh t : Nat} (hB : zBd V ns nt nh) (ht : t < nt) : V 10 t = nI (ySp V t) ∧ 1 ≤ ySp V t ∧ ySp V t ≤ 9 := by
  have b := zBd_at hB 7 (by decide) rfl ht
  have c1 : (1 : Int32) ≤ V 10 t := b.1
  have c2 : V 10 t ≤ 9 := b.2
  obtain ⟨j, hj, e⟩ := zn1 (x := V 10 t) (n := 10) (by omega) (by grind) (by have : nI 10 = 10 := rfl; grind)
  have e2 : ySp V t = j := by unfold ySp; rw [e]; exact zcl_n (by omega)
  rw [e2]
  rw [e] at c1
  exact ⟨e, nle (b := 1) c1, by omega⟩
theorem yCn_le {T u t : Nat} : ∀ n, yCn T u t n ≤ n
  | 0 => Nat.le_refl _
  | n + 1 => by
    have := yCn_le (T := T) (u := u) (t := t) n
    show yCn T u t n + (if _ then 1 else 0) ≤ n + 1
    split <;> omega
theorem yMt_b {sp : Nat → Nat} {T u n k : Nat} (h : ∀ t, t < k → sp t ≤ 9) : yMt sp T u n k ≤ n * 9 :=
  (yMt_le k).mpr (fun t ht => Nat.mul_le_mul (yCn_le n) (h t ht))
theorem zPre_N {V : Nat → Nat → Int32} {ns nt nh m : Nat} (hB : zBd V ns nt nh) (hm : m < 1000) : ∀ k, k ≤ nt → zPre V (nI m) k = nI (yP (ySp V) m k)
  | 0, _ => rfl
  | k + 1, h => by
    obtain ⟨e, h1, h9⟩ := ySp_in hB (t := k) (by omega)
    show zPre V (nI m) k + zWi V k (nI m) = nI (yP (ySp V) m k + m / ySp V k)
    rw [zPre_N hB hm k (by omega), ← nI_add]
    congr 1
    unfold zWi
    rw [e, if_pos (show (0 : Int32) < nI (ySp V k) from (nI_ltI (a := 0) (by omega) (by omega)).mpr h1), pk_div (by omega) h1 (by omega)]
theorem yP_le {sp : Nat → Nat} {m : Nat} : ∀ k, yP sp m k ≤ k * m
  | 0 => Nat.zero_le _
  | k + 1 => by
    have := yP_le (sp := sp) (m := m) k
    have h2 := Nat.div_le_self m (sp k)
    show yP sp m k + m / sp k ≤ (k + 1) * m
    rw [Nat.add_mul, Nat.one_mul]
    omega
theorem yP_b {sp : Nat → Nat} {m k : Nat} (hk : k ≤ 4) : yP sp m k ≤ 4 * m := Nat.le_trans (yP_le k) (Nat.mul_le_mul_right _ hk)
theorem zMnD_spec {V : Nat → Nat → Int32} {ns nt nh n : Nat} (hB : zBd V ns nt nh) (hnt : nt ≤ 4) (h0 : 0 < nt) (hn : n ≤ 6) : n ≤ yP (ySp V) (zMnD V nt n) nt ∧ (∀ m, m < zMnD V nt n → yP (ySp V) m nt < n) ∧ zMnD V nt n ≤ 54 := by
  have s := zrun_spec (zMinB V nt n) (n * 9) 0 (Nat.zero_le _)
  have hM : zMnD V nt n ≤ n * 9 := s.2.1
  have key : ∀ m, m ≤ n * 9 → (zMinB V nt n m = true ↔ yP (ySp V) m nt < n) := by
    intro m hm
    have hb := yP_b (sp := ySp V) (m := m) hnt
    unfold zMinB
    rw [decide_eq_true_eq, zPre_N hB (by omega) nt (Nat.le_refl _), nI_ltI (by omega) (by omega)]
  refine ⟨?_, fun m hm => (key m (by omega)).mp (s.2.2.1 m (Nat.zero_le _) hm), by omega⟩
  rcases Nat.eq_or_lt_of_le hM with e | e
  · rw [e]
    obtain ⟨-, h1, h9⟩ := ySp_in hB h0
    have c1 : n ≤ n * 9 / ySp V 0 := (Nat.le_div_iff_mul_le h1).mpr (Nat.mul_le_mul_left _ h9)
    have c2 : yP (ySp V) (n * 9) 1 ≤ yP (ySp V) (n * 9) nt := yP_mono h0
    have c3 : yP (ySp V) (n * 9) 1 = 0 + n * 9 / ySp V 0 := rfl
    omega
  · exact Nat.not_lt.mp (fun q => s.2.2.2 e ((key _ hM).mpr q))
theorem zDt_N {V : Nat → Nat → Int32} {ns nt nh i M : Nat} (hB : zBd V ns nt nh) (hnt : nt ≤ 4) (hM : M ≤ 54) (hi : i < yP (ySp V) M nt) : zDt V nt (nI i) (nI M) = nI (yG (ySp V) M nt i) := by
  have g1 := (yG_spec hi).1
  have hb := yP_b (sp := ySp V) (m := M) hnt
  have e : zrun (zDtB V (nI i) (nI M)) nt 0 = yG (ySp V) M nt i := by
    unfold yG
    refine zrun_congr (Nat.zero_le _) (fun j _ hj => ?_)
    have hb2 := yP_b (sp := ySp V) (m := M) (k := j + 1) (by omega)
    unfold zDtB
    rw [zPre_N hB (by omega) (j + 1) hj]
    exact decide_eq_decide.mpr (nI_leI (by omega) (by omega))
  unfold zDt
  rw [e, if_pos g1]
section S58
variable {g : zG} {l : Launch} {d : Nat} {I V : Nat → Nat → Int32} {L K : Nat → Nat → Int64} {fs : Nat × Nat × Option Nat} {ns nt nh nb : Nat} {pg : Option (List zLine)}
theorem sp_X12_minutesBy (hd : 1 ≤ d) (hM : zMs I V) (hK : zSky V ns nt nh) (hB : zBd V ns nt nh) (h0 : 0 < nt) {u n : Nat} (hu : u < 100000) (hn : n ≤ 6) {G : Nat → Int32} : zSp g l d 100 m_X12_minutesBy [.ref 64, .int (nI u), .int (nI n)] (zU (zup I 91 G) L fs) (zX (fun x w => x = nI (yMt (ySp V) nt u n nt) ∧ ∃ F, w = zU (zup I 91 F) L fs)) := by
  have hnt := hK.2.2.1
  have m1 : ∀ F, (zup I 91 F) 64 8 = nI nt := fun F => hM.1.2.1.trans hK.1.2.1
  have mp : ∀ F, (zup I 91 F) 72 = V 10 := fun F => hM.2.1.2.2.2.2.2.2.2.1
  have hsp : ∀ t, t < nt → ySp V t ≤ 9 := fun t ht => (ySp_in hB ht).2.2
  have cb : ∀ t i, t < nt → i ≤ 6 → yCn nt u t i * ySp V t ≤ 54 := fun t i ht hi => Nat.mul_le_mul (Nat.le_trans (yCn_le i) hi) (hsp t ht)
  have loop3 : ∀ F : Nat → Int32, (∀ t, t < nt → F t = nI (yCn nt u t n * ySp V t)) → ∀ t, t ≤ nt → zA g l d m_X12_minutesBy (zup I 91 F) L fs 78 [(5, .int (nI t)), (4, .int (nI (yMt (ySp V) nt u n t))), (0, .ref 64)] (zX (fun x w => x = nI (yMt (ySp V) nt u n nt) ∧ ∃ F, w = zU (zup I 91 F) L fs)) := by
    intro F hF
    refine zloop nt (fun t ht ih => ?_)
    have bt := yMt_b (sp := ySp V) (T := nt) (u := u) (n := n) (k := t) (fun t' h' => hsp t' (by omega))
    refine zIload d_X12_minutesBy_78 rfl (q := 80) rfl ?_
    refine zAloadN d_X12_minutesBy_80 rfl rfl (q := 81) rfl ?_
    refine zGetI d_X12_minutesBy_81 ff_X12_131 sh_64 (by decide) (q := 84) rfl ?_
    rw [m1]
    refine zIcmp_ge d_X12_minutesBy_84 (tgt := 114) (q := 87) (by decide) rfl (fun h84 => ?_) (fun h84 => ?_)
    · have e : t = nt := by have := nle h84; omega
      subst e
      refine zIload d_X12_minutesBy_114 rfl (q := 116) rfl ?_
      refine zIret d_X12_minutesBy_116 rfl rfl rfl ?_
      exact ⟨_, rfl, rfl, F, rfl⟩
    · have hlt := nnle h84
      have bc := cb t n hlt hn
      have es : yMt (ySp V) nt u n (t + 1) = max (yMt (ySp V) nt u n t) (yCn nt u t n * ySp V t) := rfl
      refine zAloadN d_X12_minutesBy_87 rfl rfl (q := 88) rfl ?_
      refine zGetR d_X12_minutesBy_88 ff_X12_92 sh_64 (by decide) r_64_40 (q := 91) rfl ?_
      refine zIload d_X12_minutesBy_91 rfl (q := 93) rfl ?_
      refine zIald d_X12_minutesBy_93 sh_91 (by decide) rfl (by omega) (q := 94) rfl ?_
      rw [zup_eq, hF t hlt]
      refine zIload d_X12_minutesBy_94 rfl (q := 96) rfl ?_
      refine zIcmp_le d_X12_minutesBy_96 (tgt := 108) (q := 99) (by decide) rfl (fun h96 => ?_) (fun h96 => ?_)
      · have hle := nle h96
        have ez : yMt (ySp V) nt u n (t + 1) = yMt (ySp V) nt u n t := by omega
        refine zIinc d_X12_minutesBy_108 rfl (zinc _) (by decide) rfl (q := 111) rfl ?_
        refine zGoto d_X12_minutesBy_111 (q := 78) (by decide) ?_
        refine zSub [0, 1, 2] rfl ?_
        have ih2 := ih hlt
        rw [ez] at ih2
        exact ih2
      · have hgt := nnle h96
        have ez : yMt (ySp V) nt u n (t + 1) = yCn nt u t n * ySp V t := by omega
        refine zAloadN d_X12_minutesBy_99 rfl rfl (q := 100) rfl ?_
        refine zGetR d_X12_minutesBy_100 ff_X12_92 sh_64 (by decide) r_64_40 (q := 103) rfl ?_
        refine zIload d_X12_minutesBy_103 rfl (q := 105) rfl ?_
        refine zIald d_X12_minutesBy_105 sh_91 (by decide) rfl (by omega) (q := 106) rfl ?_
        rw [zup_eq, hF t hlt]
        refine zIstore d_X12_minutesBy_106 (by decide) rfl (q := 108) rfl ?_
        refine zIinc d_X12_minutesBy_108 rfl (zinc _) (by decide) rfl (q := 111) rfl ?_
        refine zGoto d_X12_minutesBy_111 (q := 78) (by decide) ?_
        refine zSub [0, 1, 2] rfl ?_
        have ih2 := ih hlt
        rw [ez] at ih2
        exact ih2
  have loop2 : ∀ i, i ≤ n → ∀ F : Nat → Int32, (∀ t, t < nt → F t = nI (yCn nt u t i * ySp V t)) → zA g l d m_X12_minutesBy (zup I 91 F) L fs 28 [(4, .int (nI i)), (3, .int (nI (u / nt ^ i))), (0, .ref 64), (2, .int (nI n))] (zX (fun x w => x = nI (yMt (ySp V) nt u n nt) ∧ ∃ F, w = zU (zup I 91 F) L fs)) := by
    refine zloop n (fun i hi ih F hF => ?_)
    have ul : u / nt ^ i ≤ u := Nat.div_le_self _ _
    have hne : ¬ nI nt = 0 := nI_ne0 h0 (by omega)
    have er : nI (u / nt ^ i) - nI (u / nt ^ i) / nI nt * nI nt = nI (u / nt ^ i % nt) := pk_rem (by omega) h0 (by omega)
    have ed : nI (u / nt ^ i) / nI nt = nI (u / nt ^ (i + 1)) := by rw [pk_div (by omega) h0 (by omega), Nat.div_div_eq_div_mul, ← Nat.pow_succ]
    have hj := Nat.mod_lt (u / nt ^ i) h0
    refine zIload d_X12_minutesBy_28 rfl (q := 30) rfl ?_
    refine zIloadN d_X12_minutesBy_30 rfl rfl (q := 31) rfl ?_
    refine zIcmp_ge d_X12_minutesBy_31 (tgt := 72) (q := 34) (by decide) rfl (fun h31 => ?_) (fun h31 => ?_)
    · have e : i = n := by have := nle h31; omega
      subst e
      refine zIconst d_X12_minutesBy_72 (v := 0) ic_0 (q := 73) rfl ?_
      refine zIstore d_X12_minutesBy_73 (by decide) rfl (q := 75) rfl ?_
      refine zIconst d_X12_minutesBy_75 (v := 0) ic_0 (q := 76) rfl ?_
      refine zIstore d_X12_minutesBy_76 (by decide) rfl (q := 78) rfl ?_
      refine zSub [0, 1, 3] rfl ?_
      exact loop3 F hF 0 (Nat.zero_le _)
    · have hlt := nnle h31
      refine zIloadN d_X12_minutesBy_34 rfl rfl (q := 35) rfl ?_
      refine zAloadN d_X12_minutesBy_35 rfl rfl (q := 36) rfl ?_
      refine zGetI d_X12_minutesBy_36 ff_X12_131 sh_64 (by decide) (q := 39) rfl ?_
      rw [m1]
      refine zIrem d_X12_minutesBy_39 hne (q := 40) rfl ?_
      rw [er]
      refine zIstore d_X12_minutesBy_40 (by decide) rfl (q := 42) rfl ?_
      refine zAloadN d_X12_minutesBy_42 rfl rfl (q := 43) rfl ?_
      refine zGetR d_X12_minutesBy_43 ff_X12_92 sh_64 (by decide) r_64_40 (q := 46) rfl ?_
      refine zIload d_X12_minutesBy_46 rfl (q := 48) rfl ?_
      refine zDup2 d_X12_minutesBy_48 rfl rfl (q := 49) rfl ?_
      refine zIald d_X12_minutesBy_49 sh_91 (by decide) rfl (by omega) (q := 50) rfl ?_
      refine zAloadN d_X12_minutesBy_50 rfl rfl (q := 51) rfl ?_
      refine zGetR d_X12_minutesBy_51 ff_X12_33 sh_64 (by decide) r_64_10 (q := 54) rfl ?_
      refine zIload d_X12_minutesBy_54 rfl (q := 56) rfl ?_
      refine zIald d_X12_minutesBy_56 sh_72 (by decide) rfl (by omega) (q := 57) rfl ?_
      rw [zup_eq, hF _ hj, mp, (ySp_in hB hj).1]
      refine zIadd d_X12_minutesBy_57 (q := 58) rfl ?_
      rw [nI_add]
      refine zIast d_X12_minutesBy_58 sh_91 (by decide) rfl (by omega) (q := 59) rfl ?_
      rw [zup_zup, zup_eq]
      refine zIloadN d_X12_minutesBy_59 rfl rfl (q := 60) rfl ?_
      refine zAloadN d_X12_minutesBy_60 rfl rfl (q := 61) rfl ?_
      refine zGetI d_X12_minutesBy_61 ff_X12_131 sh_64 (by decide) (q := 64) rfl ?_
      rw [m1]
      refine zIdiv d_X12_minutesBy_64 hne (q := 65) rfl ?_
      rw [ed]
      refine zIstoreN d_X12_minutesBy_65 rfl (by decide) rfl (q := 66) rfl ?_
      refine zIinc d_X12_minutesBy_66 rfl (zinc _) (by decide) rfl (q := 69) rfl ?_
      refine zGoto d_X12_minutesBy_69 (q := 28) (by decide) ?_
      refine zSub [0, 1, 3, 4] rfl ?_
      refine ih hlt _ (fun t ht => ?_)
      show _ = nI ((yCn nt u t i + (if u / nt ^ i % nt = t then 1 else 0)) * ySp V t)
      by_cases e : u / nt ^ i % nt = t
      · rw [e, zup_eq, if_pos rfl, Nat.add_mul, Nat.one_mul]
      · rw [zup_ne (Ne.symm e), if_neg e, Nat.add_zero]; exact hF t ht
  have loop1 : ∀ t, t ≤ nt → ∀ F : Nat → Int32, (∀ i, i < t → F i = 0) → zA g l d m_X12_minutesBy (zup I 91 F) L fs 2 [(3, .int (nI t)), (0, .ref 64), (1, .int (nI u)), (2, .int (nI n))] (zX (fun x w => x = nI (yMt (ySp V) nt u n nt) ∧ ∃ F, w = zU (zup I 91 F) L fs)) := by
    refine zloop nt (fun t ht ih F hF => ?_)
    refine zIloadN d_X12_minutesBy_2 rfl rfl (q := 3) rfl ?_
    refine zAloadN d_X12_minutesBy_3 rfl rfl (q := 4) rfl ?_
    refine zGetI d_X12_minutesBy_4 ff_X12_131 sh_64 (by decide) (q := 7) rfl ?_
    rw [m1]
    refine zIcmp_ge d_X12_minutesBy_7 (tgt := 23) (q := 10) (by decide) rfl (fun h7 => ?_) (fun h7 => ?_)
    · have e : t = nt := by have := nle h7; omega
      subst e
      refine zIloadN d_X12_minutesBy_23 rfl rfl (q := 24) rfl ?_
      refine zIstoreN d_X12_minutesBy_24 rfl (by decide) rfl (q := 25) rfl ?_
      refine zIconst d_X12_minutesBy_25 (v := 0) ic_0 (q := 26) rfl ?_
      refine zIstore d_X12_minutesBy_26 (by decide) rfl (q := 28) rfl ?_
      refine zSub [0, 1, 2, 4] rfl ?_
      have h2 := loop2 0 (Nat.zero_le _) F (fun i hi => by rw [hF i hi, show yCn t u i 0 = 0 from rfl, Nat.zero_mul]; rfl)
      rw [Nat.pow_zero, Nat.div_one] at h2
      exact h2
    · have hlt := nnle h7
      refine zAloadN d_X12_minutesBy_10 rfl rfl (q := 11) rfl ?_
      refine zGetR d_X12_minutesBy_11 ff_X12_92 sh_64 (by decide) r_64_40 (q := 14) rfl ?_
      refine zIloadN d_X12_minutesBy_14 rfl rfl (q := 15) rfl ?_
      refine zIconst d_X12_minutesBy_15 (v := 0) ic_0 (q := 16) rfl ?_
      refine zIast d_X12_minutesBy_16 sh_91 (by decide) rfl (by omega) (q := 17) rfl ?_
      rw [zup_zup, zup_eq]
      refine zIinc d_X12_minutesBy_17 rfl (zinc _) (by decide) rfl (q := 20) rfl ?_
      refine zGoto d_X12_minutesBy_20 (q := 2) (by decide) ?_
      refine zSub [0, 1, 2, 3] rfl ?_
      refine ih hlt _ (fun i hi => ?_)
      by_cases e : i = t
      · subst e; exact zup_eq
      · rw [zup_ne e]; exact hF i (by omega)
  refine zSp_of (lv := [(0, .ref 64), (1, .int (nI u)), (2, .int (nI n))]) k_X12_minutesBy rfl (Nat.le_of_ble_eq_true rfl) ?_
  refine zIconst d_X12_minutesBy_0 (v := 0) ic_0 (q := 1) rfl ?_
  refine zIstoreN d_X12_minutesBy_1 rfl (by decide) rfl (q := 2) rfl ?_
  refine zSub [0, 1, 2, 3] rfl ?_
  exact loop1 0 (Nat.zero_le _) G (fun i hi => absurd hi (Nat.not_lt_zero _))
theorem sp_X12_dealt (hd : 2 ≤ d) (hM : zMs I V) (hK : zSky V ns nt nh) (hB : zBd V ns nt nh) {i : Int32} : zSp g l d 100 m_X12_dealt [.ref 64, .int i] (zU I L fs) (zX (fun x w => x = (if i < -1 then -1 else if nt = 0 then -2 else if 6 < zbc (zWait V ns) then -5 else if i = -1 then nI (zMnD V nt (zbc (zWait V ns)).toNatClampNeg) else if i < zbc (zWait V ns) then zDt V nt i (nI (zMnD V nt (zbc (zWait V ns)).toNatClampNeg)) else -2) ∧ ∃ F, w = zU (zup I 91 F) L fs)) := by
  have hs := hK.2.1
  have hnt := hK.2.2.1
  have m1 : ∀ F, (zup I 91 F) 64 8 = nI nt := fun F => hM.1.2.1.trans hK.1.2.1
  have m0 : I 64 8 = nI nt := hM.1.2.1.trans hK.1.2.1
  obtain ⟨N, eN⟩ : ∃ N, N = zcnt (fun k => decide (V 7 k = 0 ∧ V 8 k = 0)) ns := ⟨_, rfl⟩
  have eW : zbc (zWait V ns) = nI N := by rw [zWait_N hs, zbc_N hs, eN]
  have hN : N ≤ 10 := by rw [eN]; exact Nat.le_trans (zcnt_le _ ns) hs
  rw [eW, zcl_n (by omega)]
  have e0 : zup I 91 (I 91) = I := zup_self
  obtain ⟨M, eM⟩ : ∃ M, M = zMnD V nt N := ⟨_, rfl⟩
  rw [← eM]
  have main : ∀ (Q : Option Value → zW → Prop), 0 < nt → N ≤ 6 → ¬ i < -1 →
      (∀ F, i = -1 → Q (some (.int (nI M))) (zU (zup I 91 F) L fs)) → (∀ F, ¬ i = -1 → ¬ i < nI N → Q (some (.int (-2))) (zU (zup I 91 F) L fs)) → (∀ F k, i = nI k → k < N → Q (some (.int (nI (yG (ySp V) M nt k)))) (zU (zup I 91 F) L fs)) →
      ∀ w, w ≤ nt ^ N → 1 ≤ w → ∀ F b, b < w → (∀ u, u < w → yMt (ySp V) nt b N nt ≤ yMt (ySp V) nt u N nt) → (∀ u, u < b → yMt (ySp V) nt b N nt < yMt (ySp V) nt u N nt) →
      zA g l d m_X12_dealt (zup I 91 F) L fs 61 [(5, .int (nI w)), (4, .int (nI b)), (3, .int (nI (nt ^ N))), (2, .int (nI N)), (0, .ref 64), (1, .int i)] Q := by
    intro Q h0 hN6 hi Q1 Q2 Q3
    obtain ⟨d1, d2, d3⟩ := zMnD_spec hB hnt h0 hN6
    rw [← eM] at d1 d2 d3
    have p4 : nt ^ N ≤ 4 ^ 6 := Nat.le_trans (Nat.pow_le_pow_left hnt N) (Nat.pow_le_pow_right (by decide) hN6)
    have bt : ∀ u, yMt (ySp V) nt u N nt ≤ N * 9 := fun u => yMt_b (fun t' h' => (ySp_in hB h').2.2)
    refine zloop (nt ^ N) (fun w hw ih hw1 F b hbw hb1 hb2 => ?_)
    have down : ∀ k, k < N → i = nI k → b = yW (ySp V) M nt N 0 → ∀ (j : Nat), j ≤ N - 1 - k → zA g l d m_X12_dealt (zup I 91 F) L fs 119 [(5, .int (nI (N - 1 - j))), (4, .int (nI (b / nt ^ j))), (3, .int (nI (nt ^ N))), (2, .int (nI N)), (0, .ref 64), (1, .int i)] Q := by
      intro k hk ei eb
      subst ei
      have hne : ¬ nI nt = 0 := nI_ne0 h0 (by omega)
      refine zloop (N - 1 - k) (fun j hj ih3 => ?_)
      have bl : b / nt ^ j ≤ b := Nat.div_le_self _ _
      have ed : nI (b / nt ^ j) / nI nt = nI (b / nt ^ (j + 1)) := by rw [pk_div (by omega) h0 (by omega), Nat.div_div_eq_div_mul, ← Nat.pow_succ]
      have er : nI (b / nt ^ j) - nI (b / nt ^ j) / nI nt * nI nt = nI (b / nt ^ j % nt) := pk_rem (by omega) h0 (by omega)
      refine zIload d_X12_dealt_119 rfl (q := 121) rfl ?_
      refine zIloadN d_X12_dealt_121 rfl rfl (q := 122) rfl ?_
      refine zIcmp_le d_X12_dealt_122 (tgt := 140) (q := 125) (by decide) rfl (fun h122 => ?_) (fun h122 => ?_)
      · have e : j = N - 1 - k := by have := nle h122; omega
        have er2 : b / nt ^ j % nt = yG (ySp V) M nt k := by rw [eb, e, yW_dig N 0 (by omega) k hk, Nat.zero_add]
        refine zIload d_X12_dealt_140 rfl (q := 142) rfl ?_
        refine zAloadN d_X12_dealt_142 rfl rfl (q := 143) rfl ?_
        refine zGetI d_X12_dealt_143 ff_X12_131 sh_64 (by decide) (q := 146) rfl ?_
        rw [m1]
        refine zIrem d_X12_dealt_146 hne (q := 147) rfl ?_
        rw [er, er2]
        refine zIret d_X12_dealt_147 rfl rfl rfl ?_
        exact Q3 F k rfl hk
      · have hlt : j < N - 1 - k := by have := nnle h122; omega
        refine zIload d_X12_dealt_125 rfl (q := 127) rfl ?_
        refine zAloadN d_X12_dealt_127 rfl rfl (q := 128) rfl ?_
        refine zGetI d_X12_dealt_128 ff_X12_131 sh_64 (by decide) (q := 131) rfl ?_
        rw [m1]
        refine zIdiv d_X12_dealt_131 hne (q := 132) rfl ?_
        rw [ed]
        refine zIstore d_X12_dealt_132 (by decide) rfl (q := 134) rfl ?_
        refine zIinc d_X12_dealt_134 rfl (show nI (N - 1 - j) + Int32.ofInt (-1) = nI (N - 1 - (j + 1)) by rw [show N - 1 - j = (N - 1 - (j + 1)) + 1 by omega]; exact pk_m1 _) (by decide) rfl (q := 137) rfl ?_
        refine zGoto d_X12_dealt_137 (q := 119) (by decide) ?_
        refine zSub [0, 1, 2, 3, 4, 5] rfl ?_
        exact ih3 hlt
    refine zIload d_X12_dealt_61 rfl (q := 63) rfl ?_
    refine zIloadN d_X12_dealt_63 rfl rfl (q := 64) rfl ?_
    refine zIcmp_ge d_X12_dealt_64 (tgt := 94) (q := 67) (by decide) rfl (fun h64 => ?_) (fun h64 => ?_)
    · have e : w = nt ^ N := by have := nle h64; omega
      have best := yDeal (b := b) h0 (fun t ht => (ySp_in hB ht).2.1) d1 d2 (by omega) (fun u hu => hb1 u (by omega)) hb2
      refine zIloadN d_X12_dealt_94 rfl rfl (q := 95) rfl ?_
      refine zIf_ge d_X12_dealt_95 (tgt := 106) (q := 98) (by decide) rfl (fun h95 => ?_) (fun h95 => ?_)
      · refine zIloadN d_X12_dealt_106 rfl rfl (q := 107) rfl ?_
        refine zIloadN d_X12_dealt_107 rfl rfl (q := 108) rfl ?_
        refine zIcmp_lt d_X12_dealt_108 (tgt := 114) (q := 111) (by decide) rfl (fun h108 => ?_) (fun h108 => ?_)
        · obtain ⟨k, hk, ek⟩ := zn1 (x := i) (n := N) (by omega) (by grind) h108
          refine zIloadN d_X12_dealt_114 rfl rfl (q := 115) rfl ?_
          refine zIconst d_X12_dealt_115 (v := 1) ic_1 (q := 116) rfl ?_
          refine zIsub d_X12_dealt_116 (q := 117) rfl ?_
          rw [show nI N - 1 = nI (N - 1 - 0) from pk_sub (b := 1) (by omega)]
          refine zIstore d_X12_dealt_117 (by decide) rfl (q := 119) rfl ?_
          refine zSub [0, 1, 2, 3, 4, 5] rfl ?_
          have h2 := down k hk ek best.2 0 (Nat.zero_le _)
          rw [Nat.pow_zero, Nat.div_one] at h2
          exact h2
        · refine zBipush d_X12_dealt_111 (v := -2) bc_m2 (q := 113) rfl ?_
          refine zIret d_X12_dealt_113 rfl rfl rfl ?_
          exact Q2 F (fun z => by rw [z] at h95; exact absurd h95 (by decide)) (by grind)
      · refine zAloadN d_X12_dealt_98 rfl rfl (q := 99) rfl ?_
        refine zIload d_X12_dealt_99 rfl (q := 101) rfl ?_
        refine zIloadN d_X12_dealt_101 rfl rfl (q := 102) rfl ?_
        refine zCallVX d_X12_dealt_102 ml_X12_300 k_X12_minutesBy ki_X12_minutesBy ks_X12_minutesBy (sp_X12_minutesBy (d := d - 1) (by omega) hM hK hB h0 (u := b) (n := N) (by omega) hN6) rfl rfl sh_64 (by decide) rfl (by decide) (Nat.le_of_ble_eq_true rfl) (by decide) (by omega) zns100 (q := 105) rfl (fun x w' hw' => ?_)
        obtain ⟨rfl, F1, rfl⟩ := hw'
        rw [best.1]
        refine zIret d_X12_dealt_105 rfl rfl rfl ?_
        exact Q1 F1 (by grind)
    · have hlt := nnle h64
      have bw := bt w
      have bb := bt b
      refine zAloadN d_X12_dealt_67 rfl rfl (q := 68) rfl ?_
      refine zIload d_X12_dealt_68 rfl (q := 70) rfl ?_
      refine zIloadN d_X12_dealt_70 rfl rfl (q := 71) rfl ?_
      refine zCallVX d_X12_dealt_71 ml_X12_300 k_X12_minutesBy ki_X12_minutesBy ks_X12_minutesBy (sp_X12_minutesBy (d := d - 1) (by omega) hM hK hB h0 (u := w) (n := N) (by omega) hN6) rfl rfl sh_64 (by decide) rfl (by decide) (Nat.le_of_ble_eq_true rfl) (by decide) (by omega) zns100 (q := 74) rfl (fun x w' hw' => ?_)
      obtain ⟨rfl, F1, rfl⟩ := hw'
      refine zAloadN d_X12_dealt_74 rfl rfl (q := 75) rfl ?_
      refine zIload d_X12_dealt_75 rfl (q := 77) rfl ?_
      refine zIloadN d_X12_dealt_77 rfl rfl (q := 78) rfl ?_
      refine zCallVX d_X12_dealt_78 ml_X12_300 k_X12_minutesBy ki_X12_minutesBy ks_X12_minutesBy (sp_X12_minutesBy (d := d - 1) (by omega) hM hK hB h0 (u := b) (n := N) (by omega) hN6) rfl rfl sh_64 (by decide) rfl (by decide) (Nat.le_of_ble_eq_true rfl) (by decide) (by omega) zns100 (q := 81) rfl (fun x w' hw' => ?_)
      obtain ⟨rfl, F2, rfl⟩ := hw'
      refine zIcmp_ge d_X12_dealt_81 (tgt := 88) (q := 84) (by decide) rfl (fun h81 => ?_) (fun h81 => ?_)
      · have hge := nle h81
        have c : b < w + 1 ∧ (∀ u, u < w + 1 → yMt (ySp V) nt b N nt ≤ yMt (ySp V) nt u N nt) ∧ (∀ u, u < b → yMt (ySp V) nt b N nt < yMt (ySp V) nt u N nt) := ⟨by omega, fun u hu => by (rcases Nat.lt_succ_iff_lt_or_eq.mp hu with q | rfl); exact hb1 u q; exact hge, hb2⟩
        refine zIinc d_X12_dealt_88 rfl (zinc _) (by decide) rfl (q := 91) rfl ?_
        refine zGoto d_X12_dealt_91 (q := 61) (by decide) ?_
        refine zSub [0, 1, 2, 3, 4, 5] rfl ?_
        exact ih hlt (by omega) _ _ c.1 c.2.1 c.2.2
      · have hgt := nnle h81
        have c : w < w + 1 ∧ (∀ u, u < w + 1 → yMt (ySp V) nt w N nt ≤ yMt (ySp V) nt u N nt) ∧ (∀ u, u < w → yMt (ySp V) nt w N nt < yMt (ySp V) nt u N nt) := ⟨Nat.lt_succ_self w, fun u hu => by (rcases Nat.lt_succ_iff_lt_or_eq.mp hu with q | rfl); exact Nat.le_of_lt (Nat.lt_of_lt_of_le hgt (hb1 u q)); exact Nat.le_refl _, fun u hu => Nat.lt_of_lt_of_le hgt (hb1 u hu)⟩
        refine zIload d_X12_dealt_84 rfl (q := 86) rfl ?_
        refine zIstore d_X12_dealt_86 (by decide) rfl (q := 88) rfl ?_
        refine zIinc d_X12_dealt_88 rfl (zinc _) (by decide) rfl (q := 91) rfl ?_
        refine zGoto d_X12_dealt_91 (q := 61) (by decide) ?_
        refine zSub [0, 1, 2, 3, 4, 5] rfl ?_
        exact ih hlt (by omega) _ _ c.1 c.2.1 c.2.2
  have ways : ∀ (Q : Option Value → zW → Prop), N ≤ 6 → 0 < nt → zA g l d m_X12_dealt I L fs 55 [(3, .int (nI (nt ^ N))), (2, .int (nI N)), (0, .ref 64), (1, .int i)] Q → ∀ j, j ≤ N → zA g l d m_X12_dealt I L fs 36 [(4, .int (nI j)), (3, .int (nI (nt ^ j))), (2, .int (nI N)), (0, .ref 64), (1, .int i)] Q := by
    intro Q hN6 h0 hQ
    refine zloop N (fun j hj ih => ?_)
    have em : nI (nt ^ j) * nI nt = nI (nt ^ (j + 1)) := by rw [pk_mul, ← Nat.pow_succ]
    refine zIload d_X12_dealt_36 rfl (q := 38) rfl ?_
    refine zIloadN d_X12_dealt_38 rfl rfl (q := 39) rfl ?_
    refine zIcmp_ge d_X12_dealt_39 (tgt := 55) (q := 42) (by decide) rfl (fun h39 => ?_) (fun h39 => ?_)
    · have e : j = N := by have := nle h39; omega
      subst e
      refine zSub [1, 2, 3, 4] rfl ?_
      exact hQ
    · have hlt := nnle h39
      refine zIloadN d_X12_dealt_42 rfl rfl (q := 43) rfl ?_
      refine zAloadN d_X12_dealt_43 rfl rfl (q := 44) rfl ?_
      refine zGetI d_X12_dealt_44 ff_X12_131 sh_64 (by decide) (q := 47) rfl ?_
      rw [m0]
      refine zImul d_X12_dealt_47 (q := 48) rfl ?_
      rw [em]
      refine zIstoreN d_X12_dealt_48 rfl (by decide) rfl (q := 49) rfl ?_
      refine zIinc d_X12_dealt_49 rfl (zinc _) (by decide) rfl (q := 52) rfl ?_
      refine zGoto d_X12_dealt_52 (q := 36) (by decide) ?_
      refine zSub [0, 1, 2, 3, 4] rfl ?_
      exact ih hlt
  have mid : ¬ i < -1 → ¬ nt = 0 → ¬ (6 : Int32) < nI N → N ≤ 6 → zA g l d m_X12_dealt I L fs 55 [(3, .int (nI (nt ^ N))), (2, .int (nI N)), (0, .ref 64), (1, .int i)] (zX (fun x w => x = (if i < -1 then -1 else if nt = 0 then -2 else if 6 < nI N then -5 else if i = -1 then nI M else if i < nI N then zDt V nt i (nI M) else -2) ∧ ∃ F, w = zU (zup I 91 F) L fs)) := by
    intro c1 c2 c3 hN6
    rw [if_neg c1, if_neg c2, if_neg c3]
    obtain ⟨d1, d2, d3⟩ := zMnD_spec (n := N) hB hnt (by omega) hN6
    rw [← eM] at d1 d2 d3
    refine zIconst d_X12_dealt_55 (v := 0) ic_0 (q := 56) rfl ?_
    refine zIstore d_X12_dealt_56 (by decide) rfl (q := 58) rfl ?_
    refine zIconst d_X12_dealt_58 (v := 1) ic_1 (q := 59) rfl ?_
    refine zIstore d_X12_dealt_59 (by decide) rfl (q := 61) rfl ?_
    refine zSub [0, 1, 2, 3, 4, 5] rfl ?_
    rw [← e0]
    refine main _ (by omega) hN6 c1 (fun F q => ⟨_, rfl, by rw [if_pos q], F, by rw [e0]⟩) (fun F q1 q2 => ⟨_, rfl, by rw [if_neg q1, if_neg q2], F, by rw [e0]⟩) (fun F k q1 q2 => ⟨_, rfl, by rw [q1, if_neg (fun z => by have := zn_ge (k := k) (by omega); rw [z] at this; exact absurd this (by decide)), if_pos ((nI_ltI (by omega) (by omega)).mpr q2), zDt_N hB hnt d3 (by omega)], F, by rw [e0]⟩) 1 (Nat.pow_pos (by omega)) (Nat.le_refl _) (I 91) 0 (by decide) (fun u hu => by rw [Nat.lt_one_iff.mp hu]; exact Nat.le_refl _) (fun u hu => absurd hu (Nat.not_lt_zero _))
  refine zSp_of (lv := [(0, .ref 64), (1, .int i)]) k_X12_dealt rfl (Nat.le_of_ble_eq_true rfl) ?_
  refine zIloadN d_X12_dealt_0 rfl rfl (q := 1) rfl ?_
  refine zIconst d_X12_dealt_1 (v := -1) ic_m1 (q := 2) rfl ?_
  refine zIcmp_ge d_X12_dealt_2 (tgt := 7) (q := 5) (by decide) rfl (fun h2 => ?_) (fun h2 => ?_)
  · have c1 : ¬ i < -1 := by grind
    refine zAloadN d_X12_dealt_7 rfl rfl (q := 8) rfl ?_
    refine zGetI d_X12_dealt_8 ff_X12_131 sh_64 (by decide) (q := 11) rfl ?_
    rw [m0]
    refine zIf_ne d_X12_dealt_11 (tgt := 17) (q := 14) (by decide) rfl (fun h11 => ?_) (fun h11 => ?_)
    · have c2 : ¬ nt = 0 := fun z => h11 (congrArg nI z)
      refine zAloadN d_X12_dealt_17 rfl rfl (q := 18) rfl ?_
      refine zCallVP d_X12_dealt_18 ml_X12_297 k_X12_downMany ki_X12_downMany ks_X12_downMany (sp_X12_downMany (d := d - 1) (by omega) hM hK) rfl rfl sh_64 (by decide) rfl (by decide) (Nat.le_of_ble_eq_true rfl) (by decide) (by omega) zns100 (q := 21) rfl ?_
      rw [← eN]
      refine zIstoreN d_X12_dealt_21 rfl (by decide) rfl (q := 22) rfl ?_
      refine zIloadN d_X12_dealt_22 rfl rfl (q := 23) rfl ?_
      refine zBipush d_X12_dealt_23 (v := 6) bc_6 (q := 25) rfl ?_
      refine zIcmp_le d_X12_dealt_25 (tgt := 31) (q := 28) (by decide) rfl (fun h25 => ?_) (fun h25 => ?_)
      · have c3 : ¬ (6 : Int32) < nI N := Int32.not_lt.mpr h25
        have hN6 : N ≤ 6 := nle (a := 6) h25
        refine zIconst d_X12_dealt_31 (v := 1) ic_1 (q := 32) rfl ?_
        refine zIstoreN d_X12_dealt_32 rfl (by decide) rfl (q := 33) rfl ?_
        refine zIconst d_X12_dealt_33 (v := 0) ic_0 (q := 34) rfl ?_
        refine zIstore d_X12_dealt_34 (by decide) rfl (q := 36) rfl ?_
        refine zSub [0, 1, 2, 3, 4] rfl ?_
        refine ways _ hN6 (by omega) ?_ 0 (Nat.zero_le _)
        exact mid c1 c2 c3 hN6
      · have c3 : (6 : Int32) < nI N := Int32.not_le.mp h25
        refine zBipush d_X12_dealt_28 (v := -5) bc_m5 (q := 30) rfl ?_
        refine zIret d_X12_dealt_30 rfl rfl rfl ?_
        exact ⟨_, rfl, by rw [if_neg c1, if_neg c2, if_pos c3], I 91, by rw [e0]⟩
    · have c2 : nt = 0 := (nI_eq (b := 0) (by omega) (by decide)).mp h11
      refine zBipush d_X12_dealt_14 (v := -2) bc_m2 (q := 16) rfl ?_
      refine zIret d_X12_dealt_16 rfl rfl rfl ?_
      exact ⟨_, rfl, by rw [if_neg c1, if_pos c2], I 91, by rw [e0]⟩
  · have c1 : i < -1 := by grind
    refine zIconst d_X12_dealt_5 (v := -1) ic_m1 (q := 6) rfl ?_
    refine zIret d_X12_dealt_6 rfl rfl rfl ?_
    exact ⟨_, rfl, by rw [if_pos c1], I 91, by rw [e0]⟩
end S58

