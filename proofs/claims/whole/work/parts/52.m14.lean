theorem d_X12_home_0 : decode (zmc m_X12_home) 0 = .ok (.iload_n 1, 1) := by decide +kernel
theorem d_X12_home_1 : decode (zmc m_X12_home) 1 = .ok (.invokestatic 152, 3) := by decide +kernel
theorem d_X12_home_4 : decode (zmc m_X12_home) 4 = .ok (.ifCond .eq 12, 3) := by decide +kernel
theorem d_X12_home_7 : decode (zmc m_X12_home) 7 = .ok (.iload_n 2, 1) := by decide +kernel
theorem d_X12_home_8 : decode (zmc m_X12_home) 8 = .ok (.iconst 0, 1) := by decide +kernel
theorem d_X12_home_9 : decode (zmc m_X12_home) 9 = .ok (.iconst 1, 1) := by decide +kernel
theorem d_X12_home_10 : decode (zmc m_X12_home) 10 = .ok (.invokestatic 127, 3) := by decide +kernel
theorem d_X12_home_13 : decode (zmc m_X12_home) 13 = .ok (.ifCond .ne 5, 3) := by decide +kernel
theorem d_X12_home_16 : decode (zmc m_X12_home) 16 = .ok (.iconst (-1), 1) := by decide +kernel
theorem d_X12_home_17 : decode (zmc m_X12_home) 17 = .ok (.ireturn, 1) := by decide +kernel
theorem d_X12_home_18 : decode (zmc m_X12_home) 18 = .ok (.aload_n 0, 1) := by decide +kernel
theorem d_X12_home_19 : decode (zmc m_X12_home) 19 = .ok (.iload_n 1, 1) := by decide +kernel
theorem d_X12_home_20 : decode (zmc m_X12_home) 20 = .ok (.invokevirtual 279, 3) := by decide +kernel
theorem d_X12_home_23 : decode (zmc m_X12_home) 23 = .ok (.ifCond .ge 9, 3) := by decide +kernel
theorem d_X12_home_26 : decode (zmc m_X12_home) 26 = .ok (.aload_n 0, 1) := by decide +kernel
theorem d_X12_home_27 : decode (zmc m_X12_home) 27 = .ok (.iload_n 1, 1) := by decide +kernel
theorem d_X12_home_28 : decode (zmc m_X12_home) 28 = .ok (.invokevirtual 279, 3) := by decide +kernel
theorem d_X12_home_31 : decode (zmc m_X12_home) 31 = .ok (.ireturn, 1) := by decide +kernel
theorem d_X12_home_32 : decode (zmc m_X12_home) 32 = .ok (.aload_n 0, 1) := by decide +kernel
theorem d_X12_home_33 : decode (zmc m_X12_home) 33 = .ok (.invokevirtual 321, 3) := by decide +kernel
theorem d_X12_home_36 : decode (zmc m_X12_home) 36 = .ok (.istore_n 3, 1) := by decide +kernel
theorem d_X12_home_37 : decode (zmc m_X12_home) 37 = .ok (.iconst 0, 1) := by decide +kernel
theorem d_X12_home_38 : decode (zmc m_X12_home) 38 = .ok (.istore 4, 2) := by decide +kernel
theorem d_X12_home_40 : decode (zmc m_X12_home) 40 = .ok (.bipush (-2), 2) := by decide +kernel
theorem d_X12_home_42 : decode (zmc m_X12_home) 42 = .ok (.istore 5, 2) := by decide +kernel
theorem d_X12_home_44 : decode (zmc m_X12_home) 44 = .ok (.iconst 0, 1) := by decide +kernel
theorem d_X12_home_45 : decode (zmc m_X12_home) 45 = .ok (.istore 6, 2) := by decide +kernel
theorem d_X12_home_47 : decode (zmc m_X12_home) 47 = .ok (.iload 6, 2) := by decide +kernel
theorem d_X12_home_49 : decode (zmc m_X12_home) 49 = .ok (.iload_n 3, 1) := by decide +kernel
theorem d_X12_home_50 : decode (zmc m_X12_home) 50 = .ok (.if_icmp .gt 60, 3) := by decide +kernel
theorem d_X12_home_53 : decode (zmc m_X12_home) 53 = .ok (.iload 6, 2) := by decide +kernel
theorem d_X12_home_55 : decode (zmc m_X12_home) 55 = .ok (.iload_n 3, 1) := by decide +kernel
theorem d_X12_home_56 : decode (zmc m_X12_home) 56 = .ok (.iconst (-1), 1) := by decide +kernel
theorem d_X12_home_57 : decode (zmc m_X12_home) 57 = .ok (.ixor, 1) := by decide +kernel
theorem d_X12_home_58 : decode (zmc m_X12_home) 58 = .ok (.iand, 1) := by decide +kernel
theorem d_X12_home_59 : decode (zmc m_X12_home) 59 = .ok (.ifCond .ne 45, 3) := by decide +kernel
theorem d_X12_home_62 : decode (zmc m_X12_home) 62 = .ok (.aload_n 0, 1) := by decide +kernel
theorem d_X12_home_63 : decode (zmc m_X12_home) 63 = .ok (.iload_n 1, 1) := by decide +kernel
theorem d_X12_home_64 : decode (zmc m_X12_home) 64 = .ok (.iload_n 3, 1) := by decide +kernel
theorem d_X12_home_65 : decode (zmc m_X12_home) 65 = .ok (.iload 6, 2) := by decide +kernel
theorem d_X12_home_67 : decode (zmc m_X12_home) 67 = .ok (.iconst (-1), 1) := by decide +kernel
theorem d_X12_home_68 : decode (zmc m_X12_home) 68 = .ok (.ixor, 1) := by decide +kernel
theorem d_X12_home_69 : decode (zmc m_X12_home) 69 = .ok (.iand, 1) := by decide +kernel
theorem d_X12_home_70 : decode (zmc m_X12_home) 70 = .ok (.invokevirtual 339, 3) := by decide +kernel
theorem d_X12_home_73 : decode (zmc m_X12_home) 73 = .ok (.ifCond .ne 6, 3) := by decide +kernel
theorem d_X12_home_76 : decode (zmc m_X12_home) 76 = .ok (.goto 28, 3) := by decide +kernel
theorem d_X12_home_79 : decode (zmc m_X12_home) 79 = .ok (.iinc 4 1, 3) := by decide +kernel
theorem d_X12_home_82 : decode (zmc m_X12_home) 82 = .ok (.iload 5, 2) := by decide +kernel
theorem d_X12_home_84 : decode (zmc m_X12_home) 84 = .ok (.ifCond .lt 16, 3) := by decide +kernel
theorem d_X12_home_87 : decode (zmc m_X12_home) 87 = .ok (.iload 6, 2) := by decide +kernel
theorem d_X12_home_89 : decode (zmc m_X12_home) 89 = .ok (.invokestatic 312, 3) := by decide +kernel
theorem d_X12_home_92 : decode (zmc m_X12_home) 92 = .ok (.iload 5, 2) := by decide +kernel
theorem d_X12_home_94 : decode (zmc m_X12_home) 94 = .ok (.invokestatic 312, 3) := by decide +kernel
theorem d_X12_home_97 : decode (zmc m_X12_home) 97 = .ok (.if_icmp .ge 7, 3) := by decide +kernel
theorem d_X12_home_100 : decode (zmc m_X12_home) 100 = .ok (.iload 6, 2) := by decide +kernel
theorem d_X12_home_102 : decode (zmc m_X12_home) 102 = .ok (.istore 5, 2) := by decide +kernel
theorem d_X12_home_104 : decode (zmc m_X12_home) 104 = .ok (.iinc 6 1, 3) := by decide +kernel
theorem d_X12_home_107 : decode (zmc m_X12_home) 107 = .ok (.goto (-60), 3) := by decide +kernel
theorem d_X12_home_110 : decode (zmc m_X12_home) 110 = .ok (.iload_n 2, 1) := by decide +kernel
theorem d_X12_home_111 : decode (zmc m_X12_home) 111 = .ok (.ifCond .ne 8, 3) := by decide +kernel
theorem d_X12_home_114 : decode (zmc m_X12_home) 114 = .ok (.iload 4, 2) := by decide +kernel
theorem d_X12_home_116 : decode (zmc m_X12_home) 116 = .ok (.goto 5, 3) := by decide +kernel
theorem d_X12_home_119 : decode (zmc m_X12_home) 119 = .ok (.iload 5, 2) := by decide +kernel
theorem d_X12_home_121 : decode (zmc m_X12_home) 121 = .ok (.ireturn, 1) := by decide +kernel
theorem d_X12_isHomeBy_0 : decode (zmc m_X12_isHomeBy) 0 = .ok (.iconst 0, 1) := by decide +kernel
theorem d_X12_isHomeBy_1 : decode (zmc m_X12_isHomeBy) 1 = .ok (.istore_n 3, 1) := by decide +kernel
theorem d_X12_isHomeBy_2 : decode (zmc m_X12_isHomeBy) 2 = .ok (.iload_n 3, 1) := by decide +kernel
theorem d_X12_isHomeBy_3 : decode (zmc m_X12_isHomeBy) 3 = .ok (.bipush 12, 2) := by decide +kernel
theorem d_X12_isHomeBy_5 : decode (zmc m_X12_isHomeBy) 5 = .ok (.if_icmp .ge 105, 3) := by decide +kernel
theorem d_X12_isHomeBy_8 : decode (zmc m_X12_isHomeBy) 8 = .ok (.iconst 2, 1) := by decide +kernel
theorem d_X12_isHomeBy_9 : decode (zmc m_X12_isHomeBy) 9 = .ok (.iload_n 3, 1) := by decide +kernel
theorem d_X12_isHomeBy_10 : decode (zmc m_X12_isHomeBy) 10 = .ok (.imul, 1) := by decide +kernel
theorem d_X12_isHomeBy_11 : decode (zmc m_X12_isHomeBy) 11 = .ok (.iconst 1, 1) := by decide +kernel
theorem d_X12_isHomeBy_12 : decode (zmc m_X12_isHomeBy) 12 = .ok (.iadd, 1) := by decide +kernel
theorem d_X12_isHomeBy_13 : decode (zmc m_X12_isHomeBy) 13 = .ok (.aload_n 0, 1) := by decide +kernel
theorem d_X12_isHomeBy_14 : decode (zmc m_X12_isHomeBy) 14 = .ok (.getfield 110, 3) := by decide +kernel
theorem d_X12_isHomeBy_17 : decode (zmc m_X12_isHomeBy) 17 = .ok (.iload_n 1, 1) := by decide +kernel
theorem d_X12_isHomeBy_18 : decode (zmc m_X12_isHomeBy) 18 = .ok (.iaload, 1) := by decide +kernel
theorem d_X12_isHomeBy_19 : decode (zmc m_X12_isHomeBy) 19 = .ok (.if_icmp .ge 91, 3) := by decide +kernel
theorem d_X12_isHomeBy_22 : decode (zmc m_X12_isHomeBy) 22 = .ok (.aload_n 0, 1) := by decide +kernel
theorem d_X12_isHomeBy_23 : decode (zmc m_X12_isHomeBy) 23 = .ok (.iload_n 1, 1) := by decide +kernel
theorem d_X12_isHomeBy_24 : decode (zmc m_X12_isHomeBy) 24 = .ok (.iconst 2, 1) := by decide +kernel
theorem d_X12_isHomeBy_25 : decode (zmc m_X12_isHomeBy) 25 = .ok (.iload_n 3, 1) := by decide +kernel
theorem d_X12_isHomeBy_26 : decode (zmc m_X12_isHomeBy) 26 = .ok (.imul, 1) := by decide +kernel
theorem d_X12_isHomeBy_27 : decode (zmc m_X12_isHomeBy) 27 = .ok (.invokevirtual 267, 3) := by decide +kernel
theorem d_X12_isHomeBy_30 : decode (zmc m_X12_isHomeBy) 30 = .ok (.istore 4, 2) := by decide +kernel
theorem d_X12_isHomeBy_32 : decode (zmc m_X12_isHomeBy) 32 = .ok (.aload_n 0, 1) := by decide +kernel
theorem d_X12_isHomeBy_33 : decode (zmc m_X12_isHomeBy) 33 = .ok (.iload_n 1, 1) := by decide +kernel
theorem d_X12_isHomeBy_34 : decode (zmc m_X12_isHomeBy) 34 = .ok (.iconst 2, 1) := by decide +kernel
theorem d_X12_isHomeBy_35 : decode (zmc m_X12_isHomeBy) 35 = .ok (.iload_n 3, 1) := by decide +kernel
theorem d_X12_isHomeBy_36 : decode (zmc m_X12_isHomeBy) 36 = .ok (.imul, 1) := by decide +kernel
theorem d_X12_isHomeBy_37 : decode (zmc m_X12_isHomeBy) 37 = .ok (.iconst 1, 1) := by decide +kernel
theorem d_X12_isHomeBy_38 : decode (zmc m_X12_isHomeBy) 38 = .ok (.iadd, 1) := by decide +kernel
theorem d_X12_isHomeBy_39 : decode (zmc m_X12_isHomeBy) 39 = .ok (.invokevirtual 267, 3) := by decide +kernel
theorem d_X12_isHomeBy_42 : decode (zmc m_X12_isHomeBy) 42 = .ok (.istore 5, 2) := by decide +kernel
theorem d_X12_isHomeBy_44 : decode (zmc m_X12_isHomeBy) 44 = .ok (.iload 4, 2) := by decide +kernel
theorem d_X12_isHomeBy_46 : decode (zmc m_X12_isHomeBy) 46 = .ok (.iconst 0, 1) := by decide +kernel
theorem d_X12_isHomeBy_47 : decode (zmc m_X12_isHomeBy) 47 = .ok (.aload_n 0, 1) := by decide +kernel
theorem d_X12_isHomeBy_48 : decode (zmc m_X12_isHomeBy) 48 = .ok (.getfield 157, 3) := by decide +kernel
theorem d_X12_isHomeBy_51 : decode (zmc m_X12_isHomeBy) 51 = .ok (.iconst 1, 1) := by decide +kernel
theorem d_X12_isHomeBy_52 : decode (zmc m_X12_isHomeBy) 52 = .ok (.isub, 1) := by decide +kernel
theorem d_X12_isHomeBy_53 : decode (zmc m_X12_isHomeBy) 53 = .ok (.invokestatic 127, 3) := by decide +kernel
theorem d_X12_isHomeBy_56 : decode (zmc m_X12_isHomeBy) 56 = .ok (.ifCond .eq 13, 3) := by decide +kernel
theorem d_X12_isHomeBy_59 : decode (zmc m_X12_isHomeBy) 59 = .ok (.iload 5, 2) := by decide +kernel
theorem d_X12_isHomeBy_61 : decode (zmc m_X12_isHomeBy) 61 = .ok (.iconst 0, 1) := by decide +kernel
theorem d_X12_isHomeBy_62 : decode (zmc m_X12_isHomeBy) 62 = .ok (.iconst 1, 1) := by decide +kernel
theorem d_X12_isHomeBy_63 : decode (zmc m_X12_isHomeBy) 63 = .ok (.invokestatic 127, 3) := by decide +kernel
theorem d_X12_isHomeBy_66 : decode (zmc m_X12_isHomeBy) 66 = .ok (.ifCond .ne 5, 3) := by decide +kernel
theorem d_X12_isHomeBy_69 : decode (zmc m_X12_isHomeBy) 69 = .ok (.iconst 1, 1) := by decide +kernel
theorem d_X12_isHomeBy_70 : decode (zmc m_X12_isHomeBy) 70 = .ok (.ireturn, 1) := by decide +kernel
theorem d_X12_isHomeBy_71 : decode (zmc m_X12_isHomeBy) 71 = .ok (.aload_n 0, 1) := by decide +kernel
theorem d_X12_isHomeBy_72 : decode (zmc m_X12_isHomeBy) 72 = .ok (.getfield 36, 3) := by decide +kernel
theorem d_X12_isHomeBy_75 : decode (zmc m_X12_isHomeBy) 75 = .ok (.iload 4, 2) := by decide +kernel
theorem d_X12_isHomeBy_77 : decode (zmc m_X12_isHomeBy) 77 = .ok (.iaload, 1) := by decide +kernel
theorem d_X12_isHomeBy_78 : decode (zmc m_X12_isHomeBy) 78 = .ok (.iload_n 2, 1) := by decide +kernel
theorem d_X12_isHomeBy_79 : decode (zmc m_X12_isHomeBy) 79 = .ok (.iand, 1) := by decide +kernel
theorem d_X12_isHomeBy_80 : decode (zmc m_X12_isHomeBy) 80 = .ok (.ifCond .eq 7, 3) := by decide +kernel
theorem d_X12_isHomeBy_83 : decode (zmc m_X12_isHomeBy) 83 = .ok (.iconst 1, 1) := by decide +kernel
theorem d_X12_isHomeBy_84 : decode (zmc m_X12_isHomeBy) 84 = .ok (.goto 4, 3) := by decide +kernel
theorem d_X12_isHomeBy_87 : decode (zmc m_X12_isHomeBy) 87 = .ok (.iconst 0, 1) := by decide +kernel
theorem d_X12_isHomeBy_88 : decode (zmc m_X12_isHomeBy) 88 = .ok (.iload 5, 2) := by decide +kernel
theorem d_X12_isHomeBy_90 : decode (zmc m_X12_isHomeBy) 90 = .ok (.iconst 1, 1) := by decide +kernel
theorem d_X12_isHomeBy_91 : decode (zmc m_X12_isHomeBy) 91 = .ok (.if_icmp .ne 7, 3) := by decide +kernel
theorem d_X12_isHomeBy_94 : decode (zmc m_X12_isHomeBy) 94 = .ok (.iconst 1, 1) := by decide +kernel
theorem d_X12_isHomeBy_95 : decode (zmc m_X12_isHomeBy) 95 = .ok (.goto 4, 3) := by decide +kernel
theorem d_X12_isHomeBy_98 : decode (zmc m_X12_isHomeBy) 98 = .ok (.iconst 0, 1) := by decide +kernel
theorem d_X12_isHomeBy_99 : decode (zmc m_X12_isHomeBy) 99 = .ok (.if_icmp .eq 5, 3) := by decide +kernel
theorem d_X12_isHomeBy_102 : decode (zmc m_X12_isHomeBy) 102 = .ok (.iconst 0, 1) := by decide +kernel
theorem d_X12_isHomeBy_103 : decode (zmc m_X12_isHomeBy) 103 = .ok (.ireturn, 1) := by decide +kernel
theorem d_X12_isHomeBy_104 : decode (zmc m_X12_isHomeBy) 104 = .ok (.iinc 3 1, 3) := by decide +kernel
theorem d_X12_isHomeBy_107 : decode (zmc m_X12_isHomeBy) 107 = .ok (.goto (-105), 3) := by decide +kernel
theorem d_X12_isHomeBy_110 : decode (zmc m_X12_isHomeBy) 110 = .ok (.iconst 1, 1) := by decide +kernel
theorem d_X12_isHomeBy_111 : decode (zmc m_X12_isHomeBy) 111 = .ok (.ireturn, 1) := by decide +kernel
/-! THE REFERENCE: home, pattern -/
def zHX (V : Nat → Nat → Int32) (K : Nat → Nat → Int64) (r i : Nat) : Int32 := zTold V K r (nI (2 * i))
def zHY (V : Nat → Nat → Int32) (K : Nat → Nat → Int64) (r i : Nat) : Int32 := zTold V K r (nI (2 * i + 1))
section S52
variable {g : zG} {l : Launch} {d : Nat} {I V : Nat → Nat → Int32} {L K : Nat → Nat → Int64} {fs : Nat × Nat × Option Nat} {ns nt nh nb : Nat} {pg : Option (List zLine)}
theorem sp_X12_isHomeBy (hd : 2 ≤ d) (hM : zMs I V) (hK : zSky V ns nt nh) (hH : zMh I V L K) {q m : Nat} (hq : q < 6) (hm : V (42 + 2 * q) 2 = nI m) (hm2 : m ≤ 60) {right : Int32} : zPure g l d m_X12_isHomeBy [.ref 64, .int (nI q), .int right] I L fs (.int (bi (zAllSo V nh (zHX V K (42 + 2 * q)) (zHY V K (42 + 2 * q)) (zHomN V K ns nt nh (42 + 2 * q)) right))) := by
  have hn := hK.2.2.2
  have m1 : I 64 11 = nI nh := hM.1.2.2.trans hK.1.2.2
  have mn : I 73 = V 11 := hM.2.1.2.2.2.2.2.2.2.2
  have e97 : I 97 q = nI m := (hH q hq).1.trans hm
  obtain ⟨N, eN⟩ : ∃ N, N = zHomN V K ns nt nh (42 + 2 * q) := ⟨_, rfl⟩
  obtain ⟨so, eso⟩ : ∃ so : Nat → Bool, so = (fun i => decide ((zSteer V nh right >>> (zHX V K (42 + 2 * q) i &&& 31)) &&& 1 = zHY V K (42 + 2 * q) i)) := ⟨_, rfl⟩
  have ebi : bi (zAllSo V nh (zHX V K (42 + 2 * q)) (zHY V K (42 + 2 * q)) (zHomN V K ns nt nh (42 + 2 * q)) right) = bi (zrun so N 0 = N) := by rw [eso, eN]
  rw [ebi]
  have e2 : ∀ i, (2 : Int32) * nI i = nI (2 * i) := fun i => by rw [← pk_mul]; rfl
  have loop : ∀ i, i ≤ 12 → zrun (zHomB V K ns nt nh (42 + 2 * q)) 12 i = N → zrun so N i = zrun so N 0 → zA g l d m_X12_isHomeBy I L fs 2 [(3, .int (nI i)), (0, .ref 64), (1, .int (nI q)), (2, .int right)] (zP (.int (bi (zrun so N 0 = N))) (zU I L fs)) := by
    refine zloop 12 (fun i hi ih hx hy => ?_)
    have stop : ∀ c : ¬ zHomB V K ns nt nh (42 + 2 * q) i = true, bi (zrun so N 0 = N) = 1 := fun c => by
      rw [zrun_f c] at hx
      exact bi_t (by rw [← hy, ← hx, zrun_end (Nat.le_refl _)])
    refine zIloadN d_X12_isHomeBy_2 rfl rfl (q := 3) rfl ?_
    refine zBipush d_X12_isHomeBy_3 (v := 12) bc_12 (q := 5) rfl ?_
    refine zIcmp_ge d_X12_isHomeBy_5 (tgt := 110) (q := 8) (by decide) rfl (fun h5 => ?_) (fun h5 => ?_)
    · have e : i = 12 := by have := nle (b := 12) h5; omega
      have hfin : bi (zrun so N 0 = N) = 1 := by subst e; rw [zrun_end (Nat.le_refl _)] at hx; exact bi_t (by rw [← hy, ← hx, zrun_end (Nat.le_refl _)])
      refine zIconst d_X12_isHomeBy_110 (v := 1) ic_1 (q := 111) rfl ?_
      refine zIret d_X12_isHomeBy_111 rfl (by first | exact zn_bi | rfl) rfl ?_
      exact zPi hfin.symm
    · have hlt : i < 12 := nnle (b := 12) h5
      refine zIconst d_X12_isHomeBy_8 (v := 2) ic_2 (q := 9) rfl ?_
      refine zIloadN d_X12_isHomeBy_9 rfl rfl (q := 10) rfl ?_
      refine zImul d_X12_isHomeBy_10 (q := 11) rfl ?_
      rw [e2]
      refine zIconst d_X12_isHomeBy_11 (v := 1) ic_1 (q := 12) rfl ?_
      refine zIadd d_X12_isHomeBy_12 (q := 13) rfl ?_
      refine zAloadN d_X12_isHomeBy_13 rfl rfl (q := 14) rfl ?_
      refine zGetR d_X12_isHomeBy_14 ff_X12_110 sh_64 (by decide) r_64_54 (q := 17) rfl ?_
      refine zIloadN d_X12_isHomeBy_17 rfl rfl (q := 18) rfl ?_
      refine zIald d_X12_isHomeBy_18 sh_97 (by decide) rfl hq (q := 19) rfl ?_
      rw [e97, nI_1]
      refine zIcmp_ge d_X12_isHomeBy_19 (tgt := 110) (q := 22) (by decide) rfl (fun h19 => ?_) (fun h19 => ?_)
      · have hge : m ≤ 2 * i + 1 := nle h19
        have hfin := stop (by unfold zHomB; rw [decide_eq_true_eq, zTold_out (i := 2 * i + 1) hm hm2 hge (by omega)]; exact fun z => absurd z.2.1 (by decide))
        refine zIconst d_X12_isHomeBy_110 (v := 1) ic_1 (q := 111) rfl ?_
        refine zIret d_X12_isHomeBy_111 rfl (by first | exact zn_bi | rfl) rfl ?_
        exact zPi hfin.symm
      · have hlt2 : 2 * i + 1 < m := nnle h19
        have t1 : zHX V K (42 + 2 * q) i = (K (43 + 2 * q) (2 * i)).toInt32 := zTold_at hm hm2 (by omega)
        have t2 : zHY V K (42 + 2 * q) i = (K (43 + 2 * q) (2 * i + 1)).toInt32 := zTold_at hm hm2 hlt2
        refine zAloadN d_X12_isHomeBy_22 rfl rfl (q := 23) rfl ?_
        refine zIloadN d_X12_isHomeBy_23 rfl rfl (q := 24) rfl ?_
        refine zIconst d_X12_isHomeBy_24 (v := 2) ic_2 (q := 25) rfl ?_
        refine zIloadN d_X12_isHomeBy_25 rfl rfl (q := 26) rfl ?_
        refine zImul d_X12_isHomeBy_26 (q := 27) rfl ?_
        rw [e2]
        refine zCallVP d_X12_isHomeBy_27 ml_X12_267 k_X12_at ki_X12_at ks_X12_at (sp_X12_at (d := d - 1) (by omega) hH hq (i := 2 * i) (by omega)) rfl rfl sh_64 (by decide) rfl (by decide) (Nat.le_of_ble_eq_true rfl) (by decide) (by omega) zns100 (q := 30) rfl ?_
        rw [← t1]
        refine zIstore d_X12_isHomeBy_30 (by decide) rfl (q := 32) rfl ?_
        refine zAloadN d_X12_isHomeBy_32 rfl rfl (q := 33) rfl ?_
        refine zIloadN d_X12_isHomeBy_33 rfl rfl (q := 34) rfl ?_
        refine zIconst d_X12_isHomeBy_34 (v := 2) ic_2 (q := 35) rfl ?_
        refine zIloadN d_X12_isHomeBy_35 rfl rfl (q := 36) rfl ?_
        refine zImul d_X12_isHomeBy_36 (q := 37) rfl ?_
        rw [e2]
        refine zIconst d_X12_isHomeBy_37 (v := 1) ic_1 (q := 38) rfl ?_
        refine zIadd d_X12_isHomeBy_38 (q := 39) rfl ?_
        rw [nI_1]
        refine zCallVP d_X12_isHomeBy_39 ml_X12_267 k_X12_at ki_X12_at ks_X12_at (sp_X12_at (d := d - 1) (by omega) hH hq (i := 2 * i + 1) (by omega)) rfl rfl sh_64 (by decide) rfl (by decide) (Nat.le_of_ble_eq_true rfl) (by decide) (by omega) zns100 (q := 42) rfl ?_
        rw [← t2]
        refine zIstore d_X12_isHomeBy_42 (by decide) rfl (q := 44) rfl ?_
        refine zIload d_X12_isHomeBy_44 rfl (q := 46) rfl ?_
        refine zIconst d_X12_isHomeBy_46 (v := 0) ic_0 (q := 47) rfl ?_
        refine zAloadN d_X12_isHomeBy_47 rfl rfl (q := 48) rfl ?_
        refine zGetI d_X12_isHomeBy_48 ff_X12_157 sh_64 (by decide) (q := 51) rfl ?_
        refine zIconst d_X12_isHomeBy_51 (v := 1) ic_1 (q := 52) rfl ?_
        refine zIsub d_X12_isHomeBy_52 (q := 53) rfl ?_
        refine zCallSP d_X12_isHomeBy_53 ml_X12_127 k_X12_in kt_X12_in (sp_X12_in (d := d - 1) (by omega) ) rfl rfl (Nat.le_of_ble_eq_true rfl) (by decide) (by omega) zns100 (q := 56) rfl ?_
        rw [m1, bi_iff (e := (0 ≤ zHX V K (42 + 2 * q) i ∧ zHX V K (42 + 2 * q) i < nI nh)) (by rw [zle_pred (by omega)])]
        refine zIf_eq d_X12_isHomeBy_56 (tgt := 69) (q := 59) (by decide) rfl (fun h56 => ?_) (fun h56 => ?_)
        · have hfin := stop (by unfold zHomB; rw [decide_eq_true_eq]; exact fun z => bi_0.mp h56 z.1)
          refine zIconst d_X12_isHomeBy_69 (v := 1) ic_1 (q := 70) rfl ?_
          refine zIret d_X12_isHomeBy_70 rfl (by first | exact zn_bi | rfl) rfl ?_
          exact zPi hfin.symm
        · refine zIload d_X12_isHomeBy_59 rfl (q := 61) rfl ?_
          refine zIconst d_X12_isHomeBy_61 (v := 0) ic_0 (q := 62) rfl ?_
          refine zIconst d_X12_isHomeBy_62 (v := 1) ic_1 (q := 63) rfl ?_
          refine zCallSP d_X12_isHomeBy_63 ml_X12_127 k_X12_in kt_X12_in (sp_X12_in (d := d - 1) (by omega) ) rfl rfl (Nat.le_of_ble_eq_true rfl) (by decide) (by omega) zns100 (q := 66) rfl ?_
          refine zIf_ne d_X12_isHomeBy_66 (tgt := 71) (q := 69) (by decide) rfl (fun h66 => ?_) (fun h66 => ?_)
          · have hb : zHomB V K ns nt nh (42 + 2 * q) i = true := by unfold zHomB; rw [decide_eq_true_eq]; exact ⟨bi_n0.mp h56, bi_n0.mp h66⟩
            rw [zrun_t hlt hb] at hx
            have hiN : i < N := by have := (zrun_spec (zHomB V K ns nt nh (42 + 2 * q)) 12 (i + 1) hlt).1; omega
            obtain ⟨s, hs, es⟩ := zn1 (x := zHX V K (42 + 2 * q) i) (n := nh) (by omega) (bi_n0.mp h56).1 (bi_n0.mp h56).2
            have y01 := z01 (bi_n0.mp h66)
            have hso : so i = decide ((if ¬ V 11 s &&& right = 0 then (1 : Int32) else 0) = zHY V K (42 + 2 * q) i) := by
              rw [eso]
              dsimp only
              rw [es, zsteer_N (by omega), zbit (Nat.lt_of_lt_of_le (zN_lt _ nh) (Nat.pow_le_pow_right (by decide) (by omega))) (by omega), zN_bit, decide_eq_true hs, Bool.true_and]
              by_cases z : V 11 s &&& right = 0 <;> simp [z]
            refine zAloadN d_X12_isHomeBy_71 rfl rfl (q := 72) rfl ?_
            refine zGetR d_X12_isHomeBy_72 ff_X12_36 sh_64 (by decide) r_64_12 (q := 75) rfl ?_
            refine zIload d_X12_isHomeBy_75 rfl (q := 77) rfl ?_
            refine zIald d_X12_isHomeBy_77 sh_73 (by decide) es (by omega) (q := 78) rfl ?_
            rw [mn]
            refine zIloadN d_X12_isHomeBy_78 rfl rfl (q := 79) rfl ?_
            refine zIand d_X12_isHomeBy_79 (q := 80) rfl ?_
            refine zIf_eq d_X12_isHomeBy_80 (tgt := 87) (q := 83) (by decide) rfl (fun h80 => ?_) (fun h80 => ?_)
            · rw [if_neg (by simpa using h80)] at hso
              refine zIconst d_X12_isHomeBy_87 (v := 0) ic_0 (q := 88) rfl ?_
              refine zIload d_X12_isHomeBy_88 rfl (q := 90) rfl ?_
              refine zIconst d_X12_isHomeBy_90 (v := 1) ic_1 (q := 91) rfl ?_
              refine zIcmp_ne d_X12_isHomeBy_91 (tgt := 98) (q := 94) (by decide) rfl (fun h91 => ?_) (fun h91 => ?_)
              · refine zIconst d_X12_isHomeBy_98 (v := 0) ic_0 (q := 99) rfl ?_
                refine zIcmp_eq d_X12_isHomeBy_99 (tgt := 104) (q := 102) (by decide) rfl (fun _ => ?_) (fun h => absurd h (by decide))
                refine zIinc d_X12_isHomeBy_104 rfl (zinc _) (by decide) rfl (q := 107) rfl ?_
                refine zGoto d_X12_isHomeBy_107 (q := 2) (by decide) ?_
                refine zSub [0, 3, 4, 5] rfl ?_
                have c : so i = true := by rw [hso, decide_eq_true_eq]; first | exact h91.symm | (rcases y01 with z | z; exact z.symm; exact absurd z h91) | (rcases y01 with z | z; exact absurd z h91; exact z.symm)
                exact ih hlt hx (by rw [← hy, zrun_t hiN c])
              · refine zIconst d_X12_isHomeBy_94 (v := 1) ic_1 (q := 95) rfl ?_
                refine zGoto d_X12_isHomeBy_95 (q := 99) (by decide) ?_
                refine zIcmp_eq d_X12_isHomeBy_99 (tgt := 104) (q := 102) (by decide) rfl (fun h => absurd h (by decide)) (fun _ => ?_)
                refine zIconst d_X12_isHomeBy_102 (v := 0) ic_0 (q := 103) rfl ?_
                refine zIret d_X12_isHomeBy_103 rfl (by first | exact zn_bi | rfl) rfl ?_
                have c : ¬ so i = true := by rw [hso, decide_eq_true_eq]; first | exact h91 | (intro z; exact h91 z.symm) | (rw [h91]; decide) | (intro z; rw [← z] at h91; exact absurd rfl h91)
                rw [zrun_f c] at hy
                exact zPi (bi_f (by rw [← hy]; omega)).symm
            · rw [if_pos (by simpa using h80)] at hso
              refine zIconst d_X12_isHomeBy_83 (v := 1) ic_1 (q := 84) rfl ?_
              refine zGoto d_X12_isHomeBy_84 (q := 88) (by decide) ?_
              refine zIload d_X12_isHomeBy_88 rfl (q := 90) rfl ?_
              refine zIconst d_X12_isHomeBy_90 (v := 1) ic_1 (q := 91) rfl ?_
              refine zIcmp_ne d_X12_isHomeBy_91 (tgt := 98) (q := 94) (by decide) rfl (fun h91 => ?_) (fun h91 => ?_)
              · refine zIconst d_X12_isHomeBy_98 (v := 0) ic_0 (q := 99) rfl ?_
                refine zIcmp_eq d_X12_isHomeBy_99 (tgt := 104) (q := 102) (by decide) rfl (fun h => absurd h (by decide)) (fun _ => ?_)
                refine zIconst d_X12_isHomeBy_102 (v := 0) ic_0 (q := 103) rfl ?_
                refine zIret d_X12_isHomeBy_103 rfl (by first | exact zn_bi | rfl) rfl ?_
                have c : ¬ so i = true := by rw [hso, decide_eq_true_eq]; first | exact h91 | (intro z; exact h91 z.symm) | (rw [h91]; decide) | (intro z; rw [← z] at h91; exact absurd rfl h91)
                rw [zrun_f c] at hy
                exact zPi (bi_f (by rw [← hy]; omega)).symm
              · refine zIconst d_X12_isHomeBy_94 (v := 1) ic_1 (q := 95) rfl ?_
                refine zGoto d_X12_isHomeBy_95 (q := 99) (by decide) ?_
                refine zIcmp_eq d_X12_isHomeBy_99 (tgt := 104) (q := 102) (by decide) rfl (fun _ => ?_) (fun h => absurd h (by decide))
                refine zIinc d_X12_isHomeBy_104 rfl (zinc _) (by decide) rfl (q := 107) rfl ?_
                refine zGoto d_X12_isHomeBy_107 (q := 2) (by decide) ?_
                refine zSub [0, 3, 4, 5] rfl ?_
                have c : so i = true := by rw [hso, decide_eq_true_eq]; first | exact h91.symm | (rcases y01 with z | z; exact z.symm; exact absurd z h91) | (rcases y01 with z | z; exact absurd z h91; exact z.symm)
                exact ih hlt hx (by rw [← hy, zrun_t hiN c])
          · have hfin := stop (by unfold zHomB; rw [decide_eq_true_eq]; exact fun z => bi_0.mp h66 z.2)
            refine zIconst d_X12_isHomeBy_69 (v := 1) ic_1 (q := 70) rfl ?_
            refine zIret d_X12_isHomeBy_70 rfl (by first | exact zn_bi | rfl) rfl ?_
            exact zPi hfin.symm
  refine zSp_of (lv := [(0, .ref 64), (1, .int (nI q)), (2, .int right)]) k_X12_isHomeBy rfl (Nat.le_of_ble_eq_true rfl) ?_
  refine zIconst d_X12_isHomeBy_0 (v := 0) ic_0 (q := 1) rfl ?_
  refine zIstoreN d_X12_isHomeBy_1 rfl (by decide) rfl (q := 2) rfl ?_
  refine zSub [0, 1, 2, 3] rfl ?_
  exact loop 0 (Nat.zero_le _) eN.symm rfl
theorem sp_X12_home0 {i w0 : Int32} (hd : 3 ≤ d) (hi : ¬ (0 ≤ i ∧ i < 6)) : zPure g l d m_X12_home [.ref 64, .int i, .int w0] I L fs (.int (-1)) := by
  refine zSp_of (lv := [(0, .ref 64), (1, .int i), (2, .int w0)]) k_X12_home rfl (Nat.le_of_ble_eq_true rfl) ?_
  refine zIloadN d_X12_home_0 rfl rfl (q := 1) rfl ?_
  refine zCallSP d_X12_home_1 ml_X12_152 k_X12_isShelf kt_X12_isShelf (sp_X12_isShelf (d := d - 1) (by omega) ) rfl rfl (Nat.le_of_ble_eq_true rfl) (by decide) (by omega) zns100 (q := 4) rfl ?_
  refine zIf_eq d_X12_home_4 (tgt := 16) (q := 7) (by decide) rfl (fun h4 => ?_) (fun h => absurd (zshelf_out hi) h)
  refine zIconst d_X12_home_16 (v := -1) ic_m1 (q := 17) rfl ?_
  refine zIret d_X12_home_17 rfl rfl rfl ?_
  exact zPi rfl
def zHomA (V : Nat → Nat → Int32) (K : Nat → Nat → Int64) (ns nt nh r : Nat) : Int32 × Int32 := zWr V ns nh (zHX V K r) (zHY V K r) (zHomN V K ns nt nh r)
theorem sp_X12_home (hd : 4 ≤ d) (hM : zMs I V) (hK : zSky V ns nt nh) (hB : zBd V ns nt nh) (hH : zMh I V L K) (hBh : zBh V nb) (hn50 : nb ≤ 50) {q m : Nat} (hq : q < 6) (hm : V (42 + 2 * q) 2 = nI m) (hm2 : m ≤ 60) {w0 : Int32} : zPure g l d m_X12_home [.ref 64, .int (nI q), .int w0] I L fs (.int (if ¬ (0 ≤ w0 ∧ w0 ≤ 1) then -1 else if ¬ V (42 + 2 * q) 1 = 0 then (if V (42 + 2 * q) 1 = -1 then -11 else -12) else if w0 = 0 then (zHomA V K ns nt nh (42 + 2 * q)).1 else if (zHomA V K ns nt nh (42 + 2 * q)).1 = 0 then -2 else (zHomA V K ns nt nh (42 + 2 * q)).2)) := by
  have hs := hK.2.1
  have hU := zbits_N (f := V 7) (n := ns) (by omega)
  have hUl := zN_1024 (p := fun k => decide (¬ V 7 k = 0)) hs
  obtain ⟨U, eU⟩ : ∃ U, U = zN (fun k => decide (¬ V 7 k = 0)) ns := ⟨_, rfl⟩
  rw [← eU] at hU hUl
  obtain ⟨G, eG⟩ : ∃ G : Nat → Int32 × Int32 → Int32 × Int32, G = zWrS V nh (zHX V K (42 + 2 * q)) (zHY V K (42 + 2 * q)) (zHomN V K ns nt nh (42 + 2 * q)) (nI U) := ⟨_, rfl⟩
  have eA : zHomA V K ns nt nh (42 + 2 * q) = zfor G (U + 1) 0 (0, 0) := by
    unfold zHomA zWr
    rw [hU, zcl_n (by omega), eG]
  obtain ⟨A, eAA⟩ : ∃ A, A = zfor G (U + 1) 0 (0, 0) := ⟨_, rfl⟩
  rw [eA, ← eAA]
  have loop : (0 ≤ w0 ∧ w0 ≤ 1) → V (42 + 2 * q) 1 = 0 → ∀ k, k ≤ U + 1 → ∀ (c : Nat) (b : Int32) (t : Int32 × Int32), c ≤ k → t.1 = nI c → ((c = 0 ∧ b = -2) ∨ (0 < c ∧ b = t.2 ∧ ∃ j, j < 1024 ∧ b = nI j)) → zfor G (U + 1) k t = A → zA g l d m_X12_home I L fs 47 [(6, .int (nI k)), (5, .int b), (4, .int (nI c)), (3, .int (nI U)), (0, .ref 64), (1, .int (nI q)), (2, .int w0)] (zP (.int (if ¬ (0 ≤ w0 ∧ w0 ≤ 1) then -1 else if ¬ V (42 + 2 * q) 1 = 0 then (if V (42 + 2 * q) 1 = -1 then -11 else -12) else if w0 = 0 then A.1 else if A.1 = 0 then -2 else A.2)) (zU I L fs)) := by
    intro hc hv
    refine zloop (U + 1) (fun k hk ih c b t hck ht hb hx => ?_)
    refine zIload d_X12_home_47 rfl (q := 49) rfl ?_
    refine zIloadN d_X12_home_49 rfl rfl (q := 50) rfl ?_
    refine zIcmp_gt d_X12_home_50 (tgt := 110) (q := 53) (by decide) rfl (fun h50 => ?_) (fun h50 => ?_)
    · have e : k = U + 1 := by have := nlt h50; omega
      rw [zfor_end (by omega)] at hx
      subst hx
      rw [if_neg (fun z => z hc), if_neg (fun z => z hv)]
      refine zIloadN d_X12_home_110 rfl rfl (q := 111) rfl ?_
      refine zIf_ne d_X12_home_111 (tgt := 119) (q := 114) (by decide) rfl (fun h111 => ?_) (fun h111 => ?_)
      · rw [if_neg h111]
        refine zIload d_X12_home_119 rfl (q := 121) rfl ?_
        refine zIret d_X12_home_121 rfl rfl rfl ?_
        first
        | exact zPi ht.symm
        | (rcases hb with ⟨z1, z2⟩ | ⟨z1, z2, -⟩; (rw [if_pos (by rw [ht, z1]; rfl)]; exact zPi z2); (rw [if_neg (by rw [ht]; exact nI_ne0 z1 (by omega))]; exact zPi z2))
      · rw [if_pos h111]
        refine zIload d_X12_home_114 rfl (q := 116) rfl ?_
        refine zGoto d_X12_home_116 (q := 121) (by decide) ?_
        refine zIret d_X12_home_121 rfl rfl rfl ?_
        first
        | exact zPi ht.symm
        | (rcases hb with ⟨z1, z2⟩ | ⟨z1, z2, -⟩; (rw [if_pos (by rw [ht, z1]; rfl)]; exact zPi z2); (rw [if_neg (by rw [ht]; exact nI_ne0 z1 (by omega))]; exact zPi z2))
    · have hlt : k < U + 1 := by have := nnlt h50; omega
      rw [zfor_step hlt] at hx
      have gN : ¬ ((nI k &&& (nI U ^^^ (-1)) = 0) ∧ zAllSo V nh (zHX V K (42 + 2 * q)) (zHY V K (42 + 2 * q)) (zHomN V K ns nt nh (42 + 2 * q)) (nI U &&& (nI k ^^^ (-1)))) → G k t = t := fun z => by rw [eG]; exact if_neg z
      have gY : ((nI k &&& (nI U ^^^ (-1)) = 0) ∧ zAllSo V nh (zHX V K (42 + 2 * q)) (zHY V K (42 + 2 * q)) (zHomN V K ns nt nh (42 + 2 * q)) (nI U &&& (nI k ^^^ (-1)))) → G k t = (t.1 + 1, if t.1 = 0 ∨ zbc (nI k) < zbc t.2 then nI k else t.2) := fun z => by rw [eG]; exact if_pos z
      refine zIload d_X12_home_53 rfl (q := 55) rfl ?_
      refine zIloadN d_X12_home_55 rfl rfl (q := 56) rfl ?_
      refine zIconst d_X12_home_56 (v := -1) ic_m1 (q := 57) rfl ?_
      refine zIxor d_X12_home_57 (q := 58) rfl ?_
      refine zIand d_X12_home_58 (q := 59) rfl ?_
      refine zIf_ne d_X12_home_59 (tgt := 104) (q := 62) (by decide) rfl (fun h59 => ?_) (fun h59 => ?_)
      · have hG := gN (fun z => h59 z.1)
        refine zIinc d_X12_home_104 rfl (zinc _) (by decide) rfl (q := 107) rfl ?_
        refine zGoto d_X12_home_107 (q := 47) (by decide) ?_
        refine zSub [0, 1, 2, 3, 4, 5, 6] rfl ?_
        first
        | exact ih hlt c b t (by omega) ht hb (by rw [← hx, hG])
        | exact ih hlt (c + 1) _ (G k t) (by omega) ht1 hb2 hx
      · refine zAloadN d_X12_home_62 rfl rfl (q := 63) rfl ?_
        refine zIloadN d_X12_home_63 rfl rfl (q := 64) rfl ?_
        refine zIloadN d_X12_home_64 rfl rfl (q := 65) rfl ?_
        refine zIload d_X12_home_65 rfl (q := 67) rfl ?_
        refine zIconst d_X12_home_67 (v := -1) ic_m1 (q := 68) rfl ?_
        refine zIxor d_X12_home_68 (q := 69) rfl ?_
        refine zIand d_X12_home_69 (q := 70) rfl ?_
        refine zCallVP d_X12_home_70 ml_X12_339 k_X12_isHomeBy ki_X12_isHomeBy ks_X12_isHomeBy (sp_X12_isHomeBy (d := d - 1) (by omega) hM hK hH hq hm hm2) rfl rfl sh_64 (by decide) rfl (by decide) (Nat.le_of_ble_eq_true rfl) (by decide) (by omega) zns100 (q := 73) rfl ?_
        refine zIf_ne d_X12_home_73 (tgt := 79) (q := 76) (by decide) rfl (fun h73 => ?_) (fun h73 => ?_)
        · have hG := gY ⟨h59, bi_n0.mp h73⟩
          have ht1 : (G k t).1 = nI (c + 1) := by rw [hG, ht]; exact nI_1 c
          refine zIinc d_X12_home_79 rfl (zinc _) (by decide) rfl (q := 82) rfl ?_
          refine zIload d_X12_home_82 rfl (q := 84) rfl ?_
          refine zIf_lt d_X12_home_84 (tgt := 100) (q := 87) (by decide) rfl (fun h84 => ?_) (fun h84 => ?_)
          · have hb0 : c = 0 := by rcases hb with z | ⟨-, -, j, hj, z⟩; exact z.1; exact absurd h84 (by rw [z]; exact nI_pos (by omega))
            have hor : t.1 = 0 ∨ zbc (nI k) < zbc t.2 := Or.inl (by rw [ht, hb0]; rfl)
            have hb2 : (c + 1 = 0 ∧ nI k = -2) ∨ (0 < c + 1 ∧ nI k = (G k t).2 ∧ ∃ i, i < 1024 ∧ nI k = nI i) := Or.inr ⟨Nat.succ_pos c, by rw [hG]; show _ = (if _ then _ else _); rw [if_pos hor], k, by omega, rfl⟩
            refine zIload d_X12_home_100 rfl (q := 102) rfl ?_
            refine zIstore d_X12_home_102 (by decide) rfl (q := 104) rfl ?_
            refine zIinc d_X12_home_104 rfl (zinc _) (by decide) rfl (q := 107) rfl ?_
            refine zGoto d_X12_home_107 (q := 47) (by decide) ?_
            refine zSub [0, 1, 2, 3, 4, 5, 6] rfl ?_
            first
            | exact ih hlt c b t (by omega) ht hb (by rw [← hx, hG])
            | exact ih hlt (c + 1) _ (G k t) (by omega) ht1 hb2 hx
          · obtain ⟨hc0, hb1, j, hj, rfl⟩ := hb.resolve_left (fun z => h84 (by rw [z.2]; decide))
            have ct : ¬ t.1 = 0 := by rw [ht]; exact nI_ne0 hc0 (by omega)
            refine zIload d_X12_home_87 rfl (q := 89) rfl ?_
            refine zCallSP d_X12_home_89 ml_X12_312 k_X12_bitsOf kt_X12_bitsOf (sp_X12_bitsOf (d := d - 1) (by omega) (by omega)) rfl rfl (Nat.le_of_ble_eq_true rfl) (by decide) (by omega) zns100 (q := 92) rfl ?_
            refine zIload d_X12_home_92 rfl (q := 94) rfl ?_
            refine zCallSP d_X12_home_94 ml_X12_312 k_X12_bitsOf kt_X12_bitsOf (sp_X12_bitsOf (d := d - 1) (by omega) hj) rfl rfl (Nat.le_of_ble_eq_true rfl) (by decide) (by omega) zns100 (q := 97) rfl ?_
            refine zIcmp_ge d_X12_home_97 (tgt := 104) (q := 100) (by decide) rfl (fun h97 => ?_) (fun h97 => ?_)
            · have hno : ¬ (t.1 = 0 ∨ zbc (nI k) < zbc t.2) := fun z => z.elim ct (fun y => Int32.not_lt.mpr h97 (by rw [hb1]; exact y))
              have hb2 : (c + 1 = 0 ∧ nI j = -2) ∨ (0 < c + 1 ∧ nI j = (G k t).2 ∧ ∃ i, i < 1024 ∧ nI j = nI i) := Or.inr ⟨Nat.succ_pos c, by rw [hG]; show _ = (if _ then _ else _); rw [if_neg hno]; exact hb1, j, hj, rfl⟩
              refine zIinc d_X12_home_104 rfl (zinc _) (by decide) rfl (q := 107) rfl ?_
              refine zGoto d_X12_home_107 (q := 47) (by decide) ?_
              refine zSub [0, 2, 1, 3, 4, 5, 6] rfl ?_
              first
              | exact ih hlt c b t (by omega) ht hb (by rw [← hx, hG])
              | exact ih hlt (c + 1) _ (G k t) (by omega) ht1 hb2 hx
            · have hor : t.1 = 0 ∨ zbc (nI k) < zbc t.2 := Or.inr (by rw [← hb1]; exact Int32.not_le.mp h97)
              have hb2 : (c + 1 = 0 ∧ nI k = -2) ∨ (0 < c + 1 ∧ nI k = (G k t).2 ∧ ∃ i, i < 1024 ∧ nI k = nI i) := Or.inr ⟨Nat.succ_pos c, by rw [hG]; show _ = (if _ then _ else _); rw [if_pos hor], k, by omega, rfl⟩
              refine zIload d_X12_home_100 rfl (q := 102) rfl ?_
              refine zIstore d_X12_home_102 (by decide) rfl (q := 104) rfl ?_
              refine zIinc d_X12_home_104 rfl (zinc _) (by decide) rfl (q := 107) rfl ?_
              refine zGoto d_X12_home_107 (q := 47) (by decide) ?_
              refine zSub [0, 1, 2, 3, 4, 5, 6] rfl ?_
              first
              | exact ih hlt c b t (by omega) ht hb (by rw [← hx, hG])
              | exact ih hlt (c + 1) _ (G k t) (by omega) ht1 hb2 hx
        · have hG := gN (fun z => bi_0.mp h73 z.2)
          refine zGoto d_X12_home_76 (q := 104) (by decide) ?_
          refine zIinc d_X12_home_104 rfl (zinc _) (by decide) rfl (q := 107) rfl ?_
          refine zGoto d_X12_home_107 (q := 47) (by decide) ?_
          refine zSub [0, 1, 2, 3, 4, 5, 6] rfl ?_
          first
          | exact ih hlt c b t (by omega) ht hb (by rw [← hx, hG])
          | exact ih hlt (c + 1) _ (G k t) (by omega) ht1 hb2 hx
  refine zSp_of (lv := [(0, .ref 64), (1, .int (nI q)), (2, .int w0)]) k_X12_home rfl (Nat.le_of_ble_eq_true rfl) ?_
  refine zIloadN d_X12_home_0 rfl rfl (q := 1) rfl ?_
  refine zCallSP d_X12_home_1 ml_X12_152 k_X12_isShelf kt_X12_isShelf (sp_X12_isShelf (d := d - 1) (by omega) ) rfl rfl (Nat.le_of_ble_eq_true rfl) (by decide) (by omega) zns100 (q := 4) rfl ?_
  refine zIf_eq d_X12_home_4 (tgt := 16) (q := 7) (by decide) rfl (fun h => absurd h (zshelf_in hq)) (fun h4 => ?_)
  refine zIloadN d_X12_home_7 rfl rfl (q := 8) rfl ?_
  refine zIconst d_X12_home_8 (v := 0) ic_0 (q := 9) rfl ?_
  refine zIconst d_X12_home_9 (v := 1) ic_1 (q := 10) rfl ?_
  refine zCallSP d_X12_home_10 ml_X12_127 k_X12_in kt_X12_in (sp_X12_in (d := d - 1) (by omega) ) rfl rfl (Nat.le_of_ble_eq_true rfl) (by decide) (by omega) zns100 (q := 13) rfl ?_
  refine zIf_ne d_X12_home_13 (tgt := 18) (q := 16) (by decide) rfl (fun h13 => ?_) (fun h13 => ?_)
  · have hc := bi_n0.mp h13
    refine zAloadN d_X12_home_18 rfl rfl (q := 19) rfl ?_
    refine zIloadN d_X12_home_19 rfl rfl (q := 20) rfl ?_
    refine zCallVP d_X12_home_20 ml_X12_279 k_X12_rowFault ki_X12_rowFault ks_X12_rowFault (sp_X12_rowFault (d := d - 1) (by omega) hH hBh hn50 hq) rfl rfl sh_64 (by decide) rfl (by decide) (Nat.le_of_ble_eq_true rfl) (by decide) (by omega) zns100 (q := 23) rfl ?_
    refine zIf_ge d_X12_home_23 (tgt := 32) (q := 26) (by decide) rfl (fun h23 => ?_) (fun h23 => ?_)
    · have hv : V (42 + 2 * q) 1 = 0 := Decidable.byContradiction (fun z => by rw [if_neg z] at h23; revert h23; split <;> decide)
      refine zAloadN d_X12_home_32 rfl rfl (q := 33) rfl ?_
      refine zCallVP d_X12_home_33 ml_X12_321 k_X12_upNow ki_X12_upNow ks_X12_upNow (sp_X12_upNow (d := d - 1) (by omega) hM hK hB) rfl rfl sh_64 (by decide) rfl (by decide) (Nat.le_of_ble_eq_true rfl) (by decide) (by omega) zns100 (q := 36) rfl ?_
      rw [hU]
      refine zIstoreN d_X12_home_36 rfl (by decide) rfl (q := 37) rfl ?_
      refine zIconst d_X12_home_37 (v := 0) ic_0 (q := 38) rfl ?_
      refine zIstore d_X12_home_38 (by decide) rfl (q := 40) rfl ?_
      refine zBipush d_X12_home_40 (v := -2) bc_m2 (q := 42) rfl ?_
      refine zIstore d_X12_home_42 (by decide) rfl (q := 44) rfl ?_
      refine zIconst d_X12_home_44 (v := 0) ic_0 (q := 45) rfl ?_
      refine zIstore d_X12_home_45 (by decide) rfl (q := 47) rfl ?_
      refine zSub [0, 1, 2, 3, 4, 5, 6] rfl ?_
      exact loop hc hv 0 (Nat.zero_le _) 0 (-2) (0, 0) (Nat.le_refl _) rfl (Or.inl ⟨rfl, rfl⟩) eAA.symm
    · have hv : ¬ V (42 + 2 * q) 1 = 0 := fun z => h23 (by rw [z]; decide)
      rw [if_neg (fun z => z hc), if_pos hv]
      refine zAloadN d_X12_home_26 rfl rfl (q := 27) rfl ?_
      refine zIloadN d_X12_home_27 rfl rfl (q := 28) rfl ?_
      refine zCallVP d_X12_home_28 ml_X12_279 k_X12_rowFault ki_X12_rowFault ks_X12_rowFault (sp_X12_rowFault (d := d - 1) (by omega) hH hBh hn50 hq) rfl rfl sh_64 (by decide) rfl (by decide) (Nat.le_of_ble_eq_true rfl) (by decide) (by omega) zns100 (q := 31) rfl ?_
      refine zIret d_X12_home_31 rfl rfl rfl ?_
      rw [if_neg hv]
      exact zPi rfl
  · rw [if_pos (bi_0.mp h13)]
    refine zIconst d_X12_home_16 (v := -1) ic_m1 (q := 17) rfl ?_
    refine zIret d_X12_home_17 rfl rfl rfl ?_
    exact zPi rfl
end S52

