theorem d_X8_hasPlace_0 : decode (zmc m_X8_hasPlace) 0 = .ok (.iload_n 1, 1) := by decide +kernel
theorem d_X8_hasPlace_1 : decode (zmc m_X8_hasPlace) 1 = .ok (.ifCond .lt 15, 3) := by decide +kernel
theorem d_X8_hasPlace_4 : decode (zmc m_X8_hasPlace) 4 = .ok (.iload_n 1, 1) := by decide +kernel
theorem d_X8_hasPlace_5 : decode (zmc m_X8_hasPlace) 5 = .ok (.aload_n 0, 1) := by decide +kernel
theorem d_X8_hasPlace_6 : decode (zmc m_X8_hasPlace) 6 = .ok (.getfield 35, 3) := by decide +kernel
theorem d_X8_hasPlace_9 : decode (zmc m_X8_hasPlace) 9 = .ok (.if_icmp .ge 7, 3) := by decide +kernel
theorem d_X8_hasPlace_12 : decode (zmc m_X8_hasPlace) 12 = .ok (.iconst 1, 1) := by decide +kernel
theorem d_X8_hasPlace_13 : decode (zmc m_X8_hasPlace) 13 = .ok (.goto 4, 3) := by decide +kernel
theorem d_X8_hasPlace_16 : decode (zmc m_X8_hasPlace) 16 = .ok (.iconst 0, 1) := by decide +kernel
theorem d_X8_hasPlace_17 : decode (zmc m_X8_hasPlace) 17 = .ok (.ireturn, 1) := by decide +kernel
theorem d_X8_hasRun_0 : decode (zmc m_X8_hasRun) 0 = .ok (.iload_n 1, 1) := by decide +kernel
theorem d_X8_hasRun_1 : decode (zmc m_X8_hasRun) 1 = .ok (.ifCond .lt 25, 3) := by decide +kernel
theorem d_X8_hasRun_4 : decode (zmc m_X8_hasRun) 4 = .ok (.iload_n 1, 1) := by decide +kernel
theorem d_X8_hasRun_5 : decode (zmc m_X8_hasRun) 5 = .ok (.aload_n 0, 1) := by decide +kernel
theorem d_X8_hasRun_6 : decode (zmc m_X8_hasRun) 6 = .ok (.getfield 35, 3) := by decide +kernel
theorem d_X8_hasRun_9 : decode (zmc m_X8_hasRun) 9 = .ok (.if_icmp .gt 17, 3) := by decide +kernel
theorem d_X8_hasRun_12 : decode (zmc m_X8_hasRun) 12 = .ok (.iload_n 2, 1) := by decide +kernel
theorem d_X8_hasRun_13 : decode (zmc m_X8_hasRun) 13 = .ok (.aload_n 0, 1) := by decide +kernel
theorem d_X8_hasRun_14 : decode (zmc m_X8_hasRun) 14 = .ok (.getfield 35, 3) := by decide +kernel
theorem d_X8_hasRun_17 : decode (zmc m_X8_hasRun) 17 = .ok (.iload_n 1, 1) := by decide +kernel
theorem d_X8_hasRun_18 : decode (zmc m_X8_hasRun) 18 = .ok (.isub, 1) := by decide +kernel
theorem d_X8_hasRun_19 : decode (zmc m_X8_hasRun) 19 = .ok (.if_icmp .gt 7, 3) := by decide +kernel
theorem d_X8_hasRun_22 : decode (zmc m_X8_hasRun) 22 = .ok (.iconst 1, 1) := by decide +kernel
theorem d_X8_hasRun_23 : decode (zmc m_X8_hasRun) 23 = .ok (.goto 4, 3) := by decide +kernel
theorem d_X8_hasRun_26 : decode (zmc m_X8_hasRun) 26 = .ok (.iconst 0, 1) := by decide +kernel
theorem d_X8_hasRun_27 : decode (zmc m_X8_hasRun) 27 = .ok (.ireturn, 1) := by decide +kernel
theorem d_X8_holdBody_0 : decode (zmc m_X8_holdBody) 0 = .ok (.aload_n 0, 1) := by decide +kernel
theorem d_X8_holdBody_1 : decode (zmc m_X8_holdBody) 1 = .ok (.iconst 5, 1) := by decide +kernel
theorem d_X8_holdBody_2 : decode (zmc m_X8_holdBody) 2 = .ok (.putfield 15, 3) := by decide +kernel
theorem d_X8_holdBody_5 : decode (zmc m_X8_holdBody) 5 = .ok (.aload_n 0, 1) := by decide +kernel
theorem d_X8_holdBody_6 : decode (zmc m_X8_holdBody) 6 = .ok (.iload_n 1, 1) := by decide +kernel
theorem d_X8_holdBody_7 : decode (zmc m_X8_holdBody) 7 = .ok (.putfield 23, 3) := by decide +kernel
theorem d_X8_holdBody_10 : decode (zmc m_X8_holdBody) 10 = .ok (.return_, 1) := by decide +kernel
theorem d_X8_holdNothing_0 : decode (zmc m_X8_holdNothing) 0 = .ok (.aload_n 0, 1) := by decide +kernel
theorem d_X8_holdNothing_1 : decode (zmc m_X8_holdNothing) 1 = .ok (.iconst (-1), 1) := by decide +kernel
theorem d_X8_holdNothing_2 : decode (zmc m_X8_holdNothing) 2 = .ok (.putfield 15, 3) := by decide +kernel
theorem d_X8_holdNothing_5 : decode (zmc m_X8_holdNothing) 5 = .ok (.return_, 1) := by decide +kernel
theorem d_X8_holdRow_0 : decode (zmc m_X8_holdRow) 0 = .ok (.aload_n 0, 1) := by decide +kernel
theorem d_X8_holdRow_1 : decode (zmc m_X8_holdRow) 1 = .ok (.iload_n 1, 1) := by decide +kernel
theorem d_X8_holdRow_2 : decode (zmc m_X8_holdRow) 2 = .ok (.putfield 15, 3) := by decide +kernel
theorem d_X8_holdRow_5 : decode (zmc m_X8_holdRow) 5 = .ok (.aload_n 0, 1) := by decide +kernel
theorem d_X8_holdRow_6 : decode (zmc m_X8_holdRow) 6 = .ok (.iconst 0, 1) := by decide +kernel
theorem d_X8_holdRow_7 : decode (zmc m_X8_holdRow) 7 = .ok (.bipush 60, 2) := by decide +kernel
theorem d_X8_holdRow_9 : decode (zmc m_X8_holdRow) 9 = .ok (.iload_n 2, 1) := by decide +kernel
theorem d_X8_holdRow_10 : decode (zmc m_X8_holdRow) 10 = .ok (.invokestatic 26, 3) := by decide +kernel
theorem d_X8_holdRow_13 : decode (zmc m_X8_holdRow) 13 = .ok (.invokestatic 32, 3) := by decide +kernel
theorem d_X8_holdRow_16 : decode (zmc m_X8_holdRow) 16 = .ok (.putfield 35, 3) := by decide +kernel
theorem d_X8_holdRow_19 : decode (zmc m_X8_holdRow) 19 = .ok (.iconst 0, 1) := by decide +kernel
theorem d_X8_holdRow_20 : decode (zmc m_X8_holdRow) 20 = .ok (.istore_n 3, 1) := by decide +kernel
theorem d_X8_holdRow_21 : decode (zmc m_X8_holdRow) 21 = .ok (.iload_n 3, 1) := by decide +kernel
theorem d_X8_holdRow_22 : decode (zmc m_X8_holdRow) 22 = .ok (.bipush 60, 2) := by decide +kernel
theorem d_X8_holdRow_24 : decode (zmc m_X8_holdRow) 24 = .ok (.if_icmp .ge 16, 3) := by decide +kernel
theorem d_X8_holdRow_27 : decode (zmc m_X8_holdRow) 27 = .ok (.aload_n 0, 1) := by decide +kernel
theorem d_X8_holdRow_28 : decode (zmc m_X8_holdRow) 28 = .ok (.getfield 11, 3) := by decide +kernel
theorem d_X8_holdRow_31 : decode (zmc m_X8_holdRow) 31 = .ok (.iload_n 3, 1) := by decide +kernel
theorem d_X8_holdRow_32 : decode (zmc m_X8_holdRow) 32 = .ok (.lconst 0, 1) := by decide +kernel
theorem d_X8_holdRow_33 : decode (zmc m_X8_holdRow) 33 = .ok (.lastore, 1) := by decide +kernel
theorem d_X8_holdRow_34 : decode (zmc m_X8_holdRow) 34 = .ok (.iinc 3 1, 3) := by decide +kernel
theorem d_X8_holdRow_37 : decode (zmc m_X8_holdRow) 37 = .ok (.goto (-16), 3) := by decide +kernel
theorem d_X8_holdRow_40 : decode (zmc m_X8_holdRow) 40 = .ok (.return_, 1) := by decide +kernel
theorem d_X8_isBody_0 : decode (zmc m_X8_isBody) 0 = .ok (.aload_n 0, 1) := by decide +kernel
theorem d_X8_isBody_1 : decode (zmc m_X8_isBody) 1 = .ok (.getfield 15, 3) := by decide +kernel
theorem d_X8_isBody_4 : decode (zmc m_X8_isBody) 4 = .ok (.iconst 5, 1) := by decide +kernel
theorem d_X8_isBody_5 : decode (zmc m_X8_isBody) 5 = .ok (.if_icmp .ne 7, 3) := by decide +kernel
theorem d_X8_isBody_8 : decode (zmc m_X8_isBody) 8 = .ok (.iconst 1, 1) := by decide +kernel
theorem d_X8_isBody_9 : decode (zmc m_X8_isBody) 9 = .ok (.goto 4, 3) := by decide +kernel
theorem d_X8_isBody_12 : decode (zmc m_X8_isBody) 12 = .ok (.iconst 0, 1) := by decide +kernel
theorem d_X8_isBody_13 : decode (zmc m_X8_isBody) 13 = .ok (.ireturn, 1) := by decide +kernel
theorem d_X8_isBytes_0 : decode (zmc m_X8_isBytes) 0 = .ok (.aload_n 0, 1) := by decide +kernel
theorem d_X8_isBytes_1 : decode (zmc m_X8_isBytes) 1 = .ok (.getfield 15, 3) := by decide +kernel
theorem d_X8_isBytes_4 : decode (zmc m_X8_isBytes) 4 = .ok (.ifCond .ne 7, 3) := by decide +kernel
theorem d_X8_isBytes_7 : decode (zmc m_X8_isBytes) 7 = .ok (.iconst 1, 1) := by decide +kernel
theorem d_X8_isBytes_8 : decode (zmc m_X8_isBytes) 8 = .ok (.goto 4, 3) := by decide +kernel
theorem d_X8_isBytes_11 : decode (zmc m_X8_isBytes) 11 = .ok (.iconst 0, 1) := by decide +kernel
theorem d_X8_isBytes_12 : decode (zmc m_X8_isBytes) 12 = .ok (.ireturn, 1) := by decide +kernel
theorem d_X8_isEmpty_0 : decode (zmc m_X8_isEmpty) 0 = .ok (.aload_n 0, 1) := by decide +kernel
theorem d_X8_isEmpty_1 : decode (zmc m_X8_isEmpty) 1 = .ok (.getfield 15, 3) := by decide +kernel
theorem d_X8_isEmpty_4 : decode (zmc m_X8_isEmpty) 4 = .ok (.iconst (-1), 1) := by decide +kernel
theorem d_X8_isEmpty_5 : decode (zmc m_X8_isEmpty) 5 = .ok (.if_icmp .ne 7, 3) := by decide +kernel
theorem d_X8_isEmpty_8 : decode (zmc m_X8_isEmpty) 8 = .ok (.iconst 1, 1) := by decide +kernel
theorem d_X8_isEmpty_9 : decode (zmc m_X8_isEmpty) 9 = .ok (.goto 4, 3) := by decide +kernel
theorem d_X8_isEmpty_12 : decode (zmc m_X8_isEmpty) 12 = .ok (.iconst 0, 1) := by decide +kernel
theorem d_X8_isEmpty_13 : decode (zmc m_X8_isEmpty) 13 = .ok (.ireturn, 1) := by decide +kernel
theorem d_X8_isRow_0 : decode (zmc m_X8_isRow) 0 = .ok (.aload_n 0, 1) := by decide +kernel
theorem d_X8_isRow_1 : decode (zmc m_X8_isRow) 1 = .ok (.getfield 15, 3) := by decide +kernel
theorem d_X8_isRow_4 : decode (zmc m_X8_isRow) 4 = .ok (.ifCond .lt 15, 3) := by decide +kernel
theorem d_X8_isRow_7 : decode (zmc m_X8_isRow) 7 = .ok (.aload_n 0, 1) := by decide +kernel
theorem d_X8_isRow_8 : decode (zmc m_X8_isRow) 8 = .ok (.getfield 15, 3) := by decide +kernel
theorem d_X8_isRow_11 : decode (zmc m_X8_isRow) 11 = .ok (.iconst 4, 1) := by decide +kernel
theorem d_X8_isRow_12 : decode (zmc m_X8_isRow) 12 = .ok (.if_icmp .gt 7, 3) := by decide +kernel
theorem d_X8_isRow_15 : decode (zmc m_X8_isRow) 15 = .ok (.iconst 1, 1) := by decide +kernel
theorem d_X8_isRow_16 : decode (zmc m_X8_isRow) 16 = .ok (.goto 4, 3) := by decide +kernel
theorem d_X8_isRow_19 : decode (zmc m_X8_isRow) 19 = .ok (.iconst 0, 1) := by decide +kernel
theorem d_X8_isRow_20 : decode (zmc m_X8_isRow) 20 = .ok (.ireturn, 1) := by decide +kernel
theorem d_X8_lowest_0 : decode (zmc m_X8_lowest) 0 = .ok (.aload_n 0, 1) := by decide +kernel
theorem d_X8_lowest_1 : decode (zmc m_X8_lowest) 1 = .ok (.getfield 15, 3) := by decide +kernel
theorem d_X8_lowest_4 : decode (zmc m_X8_lowest) 4 = .ok (.tableswitch 62 0 4 #[36, 41, 46, 62, 50], 36) := by decide +kernel
theorem d_X8_lowest_40 : decode (zmc m_X8_lowest) 40 = .ok (.lload_n 1, 1) := by decide +kernel
theorem d_X8_lowest_41 : decode (zmc m_X8_lowest) 41 = .ok (.l2i, 1) := by decide +kernel
theorem d_X8_lowest_42 : decode (zmc m_X8_lowest) 42 = .ok (.i2b, 1) := by decide +kernel
theorem d_X8_lowest_43 : decode (zmc m_X8_lowest) 43 = .ok (.i2l, 1) := by decide +kernel
theorem d_X8_lowest_44 : decode (zmc m_X8_lowest) 44 = .ok (.lreturn, 1) := by decide +kernel
theorem d_X8_lowest_45 : decode (zmc m_X8_lowest) 45 = .ok (.lload_n 1, 1) := by decide +kernel
theorem d_X8_lowest_46 : decode (zmc m_X8_lowest) 46 = .ok (.l2i, 1) := by decide +kernel
theorem d_X8_lowest_47 : decode (zmc m_X8_lowest) 47 = .ok (.i2s, 1) := by decide +kernel
theorem d_X8_lowest_48 : decode (zmc m_X8_lowest) 48 = .ok (.i2l, 1) := by decide +kernel
theorem d_X8_lowest_49 : decode (zmc m_X8_lowest) 49 = .ok (.lreturn, 1) := by decide +kernel
theorem d_X8_lowest_50 : decode (zmc m_X8_lowest) 50 = .ok (.lload_n 1, 1) := by decide +kernel
theorem d_X8_lowest_51 : decode (zmc m_X8_lowest) 51 = .ok (.l2i, 1) := by decide +kernel
theorem d_X8_lowest_52 : decode (zmc m_X8_lowest) 52 = .ok (.i2l, 1) := by decide +kernel
theorem d_X8_lowest_53 : decode (zmc m_X8_lowest) 53 = .ok (.lreturn, 1) := by decide +kernel
theorem d_X8_lowest_54 : decode (zmc m_X8_lowest) 54 = .ok (.lload_n 1, 1) := by decide +kernel
theorem d_X8_lowest_55 : decode (zmc m_X8_lowest) 55 = .ok (.lconst 0, 1) := by decide +kernel
theorem d_X8_lowest_56 : decode (zmc m_X8_lowest) 56 = .ok (.lcmp, 1) := by decide +kernel
theorem d_X8_lowest_57 : decode (zmc m_X8_lowest) 57 = .ok (.ifCond .eq 7, 3) := by decide +kernel
theorem d_X8_lowest_60 : decode (zmc m_X8_lowest) 60 = .ok (.lconst 1, 1) := by decide +kernel
theorem d_X8_lowest_61 : decode (zmc m_X8_lowest) 61 = .ok (.goto 4, 3) := by decide +kernel
theorem d_X8_lowest_64 : decode (zmc m_X8_lowest) 64 = .ok (.lconst 0, 1) := by decide +kernel
theorem d_X8_lowest_65 : decode (zmc m_X8_lowest) 65 = .ok (.lreturn, 1) := by decide +kernel
theorem d_X8_lowest_66 : decode (zmc m_X8_lowest) 66 = .ok (.lload_n 1, 1) := by decide +kernel
theorem d_X8_lowest_67 : decode (zmc m_X8_lowest) 67 = .ok (.lreturn, 1) := by decide +kernel
theorem d_X8_refusal_0 : decode (zmc m_X8_refusal) 0 = .ok (.aload_n 0, 1) := by decide +kernel
theorem d_X8_refusal_1 : decode (zmc m_X8_refusal) 1 = .ok (.invokevirtual 19, 3) := by decide +kernel
theorem d_X8_refusal_4 : decode (zmc m_X8_refusal) 4 = .ok (.ifCond .eq 8, 3) := by decide +kernel
theorem d_X8_refusal_7 : decode (zmc m_X8_refusal) 7 = .ok (.bipush (-11), 2) := by decide +kernel
theorem d_X8_refusal_9 : decode (zmc m_X8_refusal) 9 = .ok (.goto 5, 3) := by decide +kernel
theorem d_X8_refusal_12 : decode (zmc m_X8_refusal) 12 = .ok (.bipush (-12), 2) := by decide +kernel
theorem d_X8_refusal_14 : decode (zmc m_X8_refusal) 14 = .ok (.ireturn, 1) := by decide +kernel
theorem d_X8_told_0 : decode (zmc m_X8_told) 0 = .ok (.aload_n 0, 1) := by decide +kernel
theorem d_X8_told_1 : decode (zmc m_X8_told) 1 = .ok (.iload_n 1, 1) := by decide +kernel
theorem d_X8_told_2 : decode (zmc m_X8_told) 2 = .ok (.invokevirtual 38, 3) := by decide +kernel
theorem d_X8_told_5 : decode (zmc m_X8_told) 5 = .ok (.ifCond .eq 13, 3) := by decide +kernel
theorem d_X8_told_8 : decode (zmc m_X8_told) 8 = .ok (.aload_n 0, 1) := by decide +kernel
theorem d_X8_told_9 : decode (zmc m_X8_told) 9 = .ok (.getfield 11, 3) := by decide +kernel
theorem d_X8_told_12 : decode (zmc m_X8_told) 12 = .ok (.iload_n 1, 1) := by decide +kernel
theorem d_X8_told_13 : decode (zmc m_X8_told) 13 = .ok (.laload, 1) := by decide +kernel
theorem d_X8_told_14 : decode (zmc m_X8_told) 14 = .ok (.l2i, 1) := by decide +kernel
theorem d_X8_told_15 : decode (zmc m_X8_told) 15 = .ok (.goto 4, 3) := by decide +kernel
theorem d_X8_told_18 : decode (zmc m_X8_told) 18 = .ok (.iconst (-1), 1) := by decide +kernel
theorem d_X8_told_19 : decode (zmc m_X8_told) 19 = .ok (.ireturn, 1) := by decide +kernel
theorem d_X8_write_0 : decode (zmc m_X8_write) 0 = .ok (.aload_n 0, 1) := by decide +kernel
theorem d_X8_write_1 : decode (zmc m_X8_write) 1 = .ok (.iload_n 1, 1) := by decide +kernel
theorem d_X8_write_2 : decode (zmc m_X8_write) 2 = .ok (.invokevirtual 38, 3) := by decide +kernel
theorem d_X8_write_5 : decode (zmc m_X8_write) 5 = .ok (.ifCond .eq 14, 3) := by decide +kernel
theorem d_X8_write_8 : decode (zmc m_X8_write) 8 = .ok (.aload_n 0, 1) := by decide +kernel
theorem d_X8_write_9 : decode (zmc m_X8_write) 9 = .ok (.getfield 11, 3) := by decide +kernel
theorem d_X8_write_12 : decode (zmc m_X8_write) 12 = .ok (.iload_n 1, 1) := by decide +kernel
theorem d_X8_write_13 : decode (zmc m_X8_write) 13 = .ok (.aload_n 0, 1) := by decide +kernel
theorem d_X8_write_14 : decode (zmc m_X8_write) 14 = .ok (.lload_n 2, 1) := by decide +kernel
theorem d_X8_write_15 : decode (zmc m_X8_write) 15 = .ok (.invokevirtual 42, 3) := by decide +kernel
theorem d_X8_write_18 : decode (zmc m_X8_write) 18 = .ok (.lastore, 1) := by decide +kernel
theorem d_X8_write_19 : decode (zmc m_X8_write) 19 = .ok (.return_, 1) := by decide +kernel
/-! A SHELF -/
def zShf (h : Nat) : Prop := zsh h = (8, 4) ∧ zsh (h + 1) = (21, 60) ∧ h + 1 < 100 ∧ ∀ fs, zR fs h 0 = some (h + 1)
theorem zshf {k : Nat} (hk : k < 6) : zShf (42 + 2 * k) := by
  match k, hk with
  | 0, _ => exact ⟨rfl, rfl, by decide, fun _ => rfl⟩
  | 1, _ => exact ⟨rfl, rfl, by decide, fun _ => rfl⟩
  | 2, _ => exact ⟨rfl, rfl, by decide, fun _ => rfl⟩
  | 3, _ => exact ⟨rfl, rfl, by decide, fun _ => rfl⟩
  | 4, _ => exact ⟨rfl, rfl, by decide, fun _ => rfl⟩
  | 5, _ => exact ⟨rfl, rfl, by decide, fun _ => rfl⟩
def zTold (I : Nat → Nat → Int32) (L : Nat → Nat → Int64) (h : Nat) (i : Int32) : Int32 := if 0 ≤ i ∧ i < I h 2 then (L (h + 1) i.toNatClampNeg).toInt32 else -1
def zZero (f : Nat → Int64) (k : Nat) : Nat → Int64 := zfor (fun k f => zup f k 0) 60 k f
theorem zZero_at (f : Nat → Int64) (j : Nat) : zZero f 0 j = if j < 60 then 0 else f j := by
  have key : ∀ k, k ≤ 60 → ∀ f : Nat → Int64, zZero f k j = if k ≤ j ∧ j < 60 then 0 else f j := by
    refine zloop 60 (fun k hk ih f => ?_)
    unfold zZero at ih ⊢
    rcases Nat.eq_or_lt_of_le hk with e | hlt
    · rw [zfor_end (by omega), if_neg (by omega)]
    · rw [zfor_step hlt, ih hlt]
      by_cases e : j = k
      · subst e
        rw [if_neg (by omega), if_pos ⟨Nat.le_refl _, hlt⟩, zup_eq]
      · by_cases h2 : k + 1 ≤ j ∧ j < 60
        · rw [if_pos h2, if_pos (by omega)]
        · rw [if_neg h2, if_neg (by omega), zup_ne e]
  rw [key 0 (Nat.zero_le _) f]
  simp
def zLow (s : Int32) (v : Int64) : Int64 := if s = 0 then v.toInt32.toInt8.toInt32.toInt64 else if s = 1 then v.toInt32.toInt16.toInt32.toInt64 else if s = 2 then v.toInt32.toInt64 else if s = 4 then (if lg_cmp v 0 = 0 then 0 else 1) else v
def zHoldI (I : Nat → Nat → Int32) (h : Nat) (s n : Int32) : Nat → Nat → Int32 := zup I h (zup (zup (I h) 1 s) 2 n)
section S11
variable {g : zG} {l : Launch} {d : Nat} {I : Nat → Nat → Int32} {L : Nat → Nat → Int64} {fs : Nat × Nat × Option Nat} {h : Nat}
theorem sp_X8_isEmpty (hd : 1 ≤ d) (hh : zShf h) : zPure g l d m_X8_isEmpty [.ref h] I L fs (.int (bi (I h 1 = -1))) := by
  refine zSp_of (lv := [(0, .ref h)]) k_X8_isEmpty rfl (Nat.le_of_ble_eq_true rfl) ?_
  refine zAloadN d_X8_isEmpty_0 rfl rfl (q := 1) rfl ?_
  refine zGetI d_X8_isEmpty_1 ff_X8_15 hh.1 (Nat.lt_of_succ_lt hh.2.2.1) (q := 4) rfl ?_
  refine zIconst d_X8_isEmpty_4 (v := -1) ic_m1 (q := 5) rfl ?_
  refine zIcmp_ne d_X8_isEmpty_5 (tgt := 12) (q := 8) (by decide) rfl (fun h5 => ?_) (fun h5 => ?_)
  · refine zIconst d_X8_isEmpty_12 (v := 0) ic_0 (q := 13) rfl ?_
    refine zIret d_X8_isEmpty_13 rfl rfl rfl ?_
    exact zPi (by unfold bi; simp_all)
  · refine zIconst d_X8_isEmpty_8 (v := 1) ic_1 (q := 9) rfl ?_
    refine zGoto d_X8_isEmpty_9 (q := 13) (by decide) ?_
    refine zIret d_X8_isEmpty_13 rfl rfl rfl ?_
    exact zPi (by unfold bi; simp_all)
theorem sp_X8_isBody (hd : 1 ≤ d) (hh : zShf h) : zPure g l d m_X8_isBody [.ref h] I L fs (.int (bi (I h 1 = 5))) := by
  refine zSp_of (lv := [(0, .ref h)]) k_X8_isBody rfl (Nat.le_of_ble_eq_true rfl) ?_
  refine zAloadN d_X8_isBody_0 rfl rfl (q := 1) rfl ?_
  refine zGetI d_X8_isBody_1 ff_X8_15 hh.1 (Nat.lt_of_succ_lt hh.2.2.1) (q := 4) rfl ?_
  refine zIconst d_X8_isBody_4 (v := 5) ic_5 (q := 5) rfl ?_
  refine zIcmp_ne d_X8_isBody_5 (tgt := 12) (q := 8) (by decide) rfl (fun h5 => ?_) (fun h5 => ?_)
  · refine zIconst d_X8_isBody_12 (v := 0) ic_0 (q := 13) rfl ?_
    refine zIret d_X8_isBody_13 rfl rfl rfl ?_
    exact zPi (by unfold bi; simp_all)
  · refine zIconst d_X8_isBody_8 (v := 1) ic_1 (q := 9) rfl ?_
    refine zGoto d_X8_isBody_9 (q := 13) (by decide) ?_
    refine zIret d_X8_isBody_13 rfl rfl rfl ?_
    exact zPi (by unfold bi; simp_all)
theorem sp_X8_isRow (hd : 1 ≤ d) (hh : zShf h) : zPure g l d m_X8_isRow [.ref h] I L fs (.int (bi (0 ≤ I h 1 ∧ I h 1 ≤ 4))) := by
  refine zSp_of (lv := [(0, .ref h)]) k_X8_isRow rfl (Nat.le_of_ble_eq_true rfl) ?_
  refine zAloadN d_X8_isRow_0 rfl rfl (q := 1) rfl ?_
  refine zGetI d_X8_isRow_1 ff_X8_15 hh.1 (Nat.lt_of_succ_lt hh.2.2.1) (q := 4) rfl ?_
  refine zIf_lt d_X8_isRow_4 (tgt := 19) (q := 7) (by decide) rfl (fun h4 => ?_) (fun h4 => ?_)
  · refine zIconst d_X8_isRow_19 (v := 0) ic_0 (q := 20) rfl ?_
    refine zIret d_X8_isRow_20 rfl rfl rfl ?_
    exact zPi (by unfold bi; grind)
  · refine zAloadN d_X8_isRow_7 rfl rfl (q := 8) rfl ?_
    refine zGetI d_X8_isRow_8 ff_X8_15 hh.1 (Nat.lt_of_succ_lt hh.2.2.1) (q := 11) rfl ?_
    refine zIconst d_X8_isRow_11 (v := 4) ic_4 (q := 12) rfl ?_
    refine zIcmp_gt d_X8_isRow_12 (tgt := 19) (q := 15) (by decide) rfl (fun h12 => ?_) (fun h12 => ?_)
    · refine zIconst d_X8_isRow_19 (v := 0) ic_0 (q := 20) rfl ?_
      refine zIret d_X8_isRow_20 rfl rfl rfl ?_
      exact zPi (by unfold bi; grind)
    · refine zIconst d_X8_isRow_15 (v := 1) ic_1 (q := 16) rfl ?_
      refine zGoto d_X8_isRow_16 (q := 20) (by decide) ?_
      refine zIret d_X8_isRow_20 rfl rfl rfl ?_
      exact zPi (by unfold bi; grind)
theorem sp_X8_isBytes (hd : 1 ≤ d) (hh : zShf h) : zPure g l d m_X8_isBytes [.ref h] I L fs (.int (bi (I h 1 = 0))) := by
  refine zSp_of (lv := [(0, .ref h)]) k_X8_isBytes rfl (Nat.le_of_ble_eq_true rfl) ?_
  refine zAloadN d_X8_isBytes_0 rfl rfl (q := 1) rfl ?_
  refine zGetI d_X8_isBytes_1 ff_X8_15 hh.1 (Nat.lt_of_succ_lt hh.2.2.1) (q := 4) rfl ?_
  refine zIf_ne d_X8_isBytes_4 (tgt := 11) (q := 7) (by decide) rfl (fun h4 => ?_) (fun h4 => ?_)
  · refine zIconst d_X8_isBytes_11 (v := 0) ic_0 (q := 12) rfl ?_
    refine zIret d_X8_isBytes_12 rfl rfl rfl ?_
    exact zPi (by unfold bi; simp_all)
  · refine zIconst d_X8_isBytes_7 (v := 1) ic_1 (q := 8) rfl ?_
    refine zGoto d_X8_isBytes_8 (q := 12) (by decide) ?_
    refine zIret d_X8_isBytes_12 rfl rfl rfl ?_
    exact zPi (by unfold bi; simp_all)
theorem sp_X8_refusal (hd : 2 ≤ d) (hh : zShf h) : zPure g l d m_X8_refusal [.ref h] I L fs (.int (if I h 1 = -1 then -11 else -12)) := by
  refine zSp_of (lv := [(0, .ref h)]) k_X8_refusal rfl (Nat.le_of_ble_eq_true rfl) ?_
  refine zAloadN d_X8_refusal_0 rfl rfl (q := 1) rfl ?_
  refine zCallVP d_X8_refusal_1 ml_X8_19 k_X8_isEmpty ki_X8_isEmpty ks_X8_isEmpty (sp_X8_isEmpty (d := d - 1) (by omega) hh) rfl rfl hh.1 (by decide) rfl (Nat.lt_of_succ_lt hh.2.2.1) (Nat.le_of_ble_eq_true rfl) (by decide) (by omega) zns100 (q := 4) rfl ?_
  refine zIf_eq d_X8_refusal_4 (tgt := 12) (q := 7) (by decide) rfl (fun h4 => ?_) (fun h4 => ?_)
  · refine zBipush d_X8_refusal_12 (v := -12) bc_m12 (q := 14) rfl ?_
    refine zIret d_X8_refusal_14 rfl rfl rfl ?_
    exact zPi (by first | rw [if_pos (bi_n0.mp h4)] | rw [if_neg (bi_0.mp h4)])
  · refine zBipush d_X8_refusal_7 (v := -11) bc_m11 (q := 9) rfl ?_
    refine zGoto d_X8_refusal_9 (q := 14) (by decide) ?_
    refine zIret d_X8_refusal_14 rfl rfl rfl ?_
    exact zPi (by first | rw [if_pos (bi_n0.mp h4)] | rw [if_neg (bi_0.mp h4)])
theorem sp_X8_holdNothing (hd : 1 ≤ d) (hh : zShf h) : zSp g l d 100 m_X8_holdNothing [.ref h] (zU I L fs) (zV (fun w => w = zU (zup I h (zup (I h) 1 (-1))) L fs)) := by
  refine zSp_of (lv := [(0, .ref h)]) k_X8_holdNothing rfl (Nat.le_of_ble_eq_true rfl) ?_
  refine zAloadN d_X8_holdNothing_0 rfl rfl (q := 1) rfl ?_
  refine zIconst d_X8_holdNothing_1 (v := -1) ic_m1 (q := 2) rfl ?_
  refine zPutI d_X8_holdNothing_2 ff_X8_15 rfl rfl rfl hh.1 (Nat.lt_of_succ_lt hh.2.2.1) (q := 5) rfl ?_
  refine zVret d_X8_holdNothing_5 rfl rfl ?_
  exact ⟨rfl, rfl⟩
theorem sp_X8_holdBody (hd : 1 ≤ d) (hh : zShf h) {b : Int32} : zSp g l d 100 m_X8_holdBody [.ref h, .int b] (zU I L fs) (zV (fun w => w = zU (zup I h (zup (zup (I h) 1 5) 3 b)) L fs)) := by
  refine zSp_of (lv := [(0, .ref h), (1, .int b)]) k_X8_holdBody rfl (Nat.le_of_ble_eq_true rfl) ?_
  refine zAloadN d_X8_holdBody_0 rfl rfl (q := 1) rfl ?_
  refine zIconst d_X8_holdBody_1 (v := 5) ic_5 (q := 2) rfl ?_
  refine zPutI d_X8_holdBody_2 ff_X8_15 rfl rfl rfl hh.1 (Nat.lt_of_succ_lt hh.2.2.1) (q := 5) rfl ?_
  refine zAloadN d_X8_holdBody_5 rfl rfl (q := 6) rfl ?_
  refine zIloadN d_X8_holdBody_6 rfl rfl (q := 7) rfl ?_
  refine zPutI d_X8_holdBody_7 ff_X8_23 rfl rfl rfl hh.1 (Nat.lt_of_succ_lt hh.2.2.1) (q := 10) rfl ?_
  refine zVret d_X8_holdBody_10 rfl rfl ?_
  exact ⟨rfl, by rw [zup_zup, zup_eq]⟩
theorem sp_X8_holdRow (hd : 1 ≤ d) (hh : zShf h) {s : Int32} {n : Nat} (hn : n ≤ 60) : zSp g l d 100 m_X8_holdRow [.ref h, .int s, .int (nI n)] (zU I L fs) (zV (fun w => w = zU (zHoldI I h s (nI n)) (zup L (h + 1) (zZero (L (h + 1)) 0)) fs)) := by
  have loop : ∀ k, k ≤ 60 → ∀ f, zZero f k = zZero (L (h + 1)) 0 → zA g l d m_X8_holdRow (zHoldI I h s (nI n)) (zup L (h + 1) f) fs 21 [(3, .int (nI k)), (0, .ref h)] (zV (fun w => w = zU (zHoldI I h s (nI n)) (zup L (h + 1) (zZero (L (h + 1)) 0)) fs)) := by
    refine zloop 60 (fun k hk ih f hx => ?_)
    refine zIloadN d_X8_holdRow_21 rfl rfl (q := 22) rfl ?_
    refine zBipush d_X8_holdRow_22 (v := 60) bc_60 (q := 24) rfl ?_
    refine zIcmp_ge d_X8_holdRow_24 (tgt := 40) (q := 27) (by decide) rfl (fun h24 => ?_) (fun h24 => ?_)
    · have e := nle (b := 60) h24
      refine zVret d_X8_holdRow_40 rfl rfl ?_
      exact ⟨rfl, by rw [← hx]; unfold zZero; rw [zfor_end e]⟩
    · have hlt := nnle (b := 60) h24
      refine zAloadN d_X8_holdRow_27 rfl rfl (q := 28) rfl ?_
      refine zGetR d_X8_holdRow_28 ff_X8_11 hh.1 (Nat.lt_of_succ_lt hh.2.2.1) (hh.2.2.2 _) (q := 31) rfl ?_
      refine zIloadN d_X8_holdRow_31 rfl rfl (q := 32) rfl ?_
      refine zLconst d_X8_holdRow_32 (v := 0) rfl (q := 33) rfl ?_
      refine zLast d_X8_holdRow_33 hh.2.1 hh.2.2.1 rfl (by omega) (q := 34) rfl ?_
      rw [zup_zup, zup_eq]
      refine zIinc d_X8_holdRow_34 rfl (zinc _) (by decide) rfl (q := 37) rfl ?_
      refine zGoto d_X8_holdRow_37 (q := 21) (by decide) ?_
      refine zSub [0, 1] rfl ?_
      exact ih hlt _ (by rw [← hx]; unfold zZero; rw [zfor_step hlt])
  have e0 : zup L (h + 1) (L (h + 1)) = L := by funext a; unfold zup; split <;> simp_all
  have hmin : (if nI n < 60 then nI n else 60) = nI n := by
    by_cases q : nI n < 60
    · rw [if_pos q]
    · rw [if_neg q]
      have := nnlt (b := 60) q
      rw [show n = 60 by omega]; rfl
  have hmax : (if 0 < nI n then nI n else 0) = nI n := by
    by_cases q : 0 < nI n
    · rw [if_pos q]
    · rw [if_neg q]
      have := nnlt (a := 0) q
      rw [show n = 0 by omega]; rfl
  refine zSp_of (lv := [(0, .ref h), (1, .int s), (2, .int (nI n))]) k_X8_holdRow rfl (Nat.le_of_ble_eq_true rfl) ?_
  refine zAloadN d_X8_holdRow_0 rfl rfl (q := 1) rfl ?_
  refine zIloadN d_X8_holdRow_1 rfl rfl (q := 2) rfl ?_
  refine zPutI d_X8_holdRow_2 ff_X8_15 rfl rfl rfl hh.1 (Nat.lt_of_succ_lt hh.2.2.1) (q := 5) rfl ?_
  refine zAloadN d_X8_holdRow_5 rfl rfl (q := 6) rfl ?_
  refine zIconst d_X8_holdRow_6 (v := 0) ic_0 (q := 7) rfl ?_
  refine zBipush d_X8_holdRow_7 (v := 60) bc_60 (q := 9) rfl ?_
  refine zIloadN d_X8_holdRow_9 rfl rfl (q := 10) rfl ?_
  refine zMin d_X8_holdRow_10 ml_X8_26 (by omega) (Nat.le_of_ble_eq_true rfl) ⟨Nat.le_refl _, Nat.le_refl _⟩ (q := 13) rfl ?_
  refine zMax d_X8_holdRow_13 ml_X8_32 (by omega) (Nat.le_of_ble_eq_true rfl) ⟨Nat.le_refl _, Nat.le_refl _⟩ (q := 16) rfl ?_
  rw [hmin, hmax]
  refine zPutI d_X8_holdRow_16 ff_X8_35 rfl rfl rfl hh.1 (Nat.lt_of_succ_lt hh.2.2.1) (q := 19) rfl ?_
  rw [zup_zup, zup_eq]
  refine zIconst d_X8_holdRow_19 (v := 0) ic_0 (q := 20) rfl ?_
  refine zIstoreN d_X8_holdRow_20 rfl (by decide) rfl (q := 21) rfl ?_
  refine zSub [0, 1] rfl ?_
  exact (e0 ▸ loop 0 (Nat.zero_le _) (L (h + 1)) rfl : zA g l d m_X8_holdRow (zHoldI I h s (nI n)) L fs 21 [(3, .int (nI 0)), (0, .ref h)] _)
theorem sp_X8_hasPlace (hd : 1 ≤ d) (hh : zShf h) {i : Int32} : zPure g l d m_X8_hasPlace [.ref h, .int i] I L fs (.int (bi (0 ≤ i ∧ i < I h 2))) := by
  refine zSp_of (lv := [(0, .ref h), (1, .int i)]) k_X8_hasPlace rfl (Nat.le_of_ble_eq_true rfl) ?_
  refine zIloadN d_X8_hasPlace_0 rfl rfl (q := 1) rfl ?_
  refine zIf_lt d_X8_hasPlace_1 (tgt := 16) (q := 4) (by decide) rfl (fun h1 => ?_) (fun h1 => ?_)
  · refine zIconst d_X8_hasPlace_16 (v := 0) ic_0 (q := 17) rfl ?_
    refine zIret d_X8_hasPlace_17 rfl rfl rfl ?_
    exact zPi (by unfold bi; grind)
  · refine zIloadN d_X8_hasPlace_4 rfl rfl (q := 5) rfl ?_
    refine zAloadN d_X8_hasPlace_5 rfl rfl (q := 6) rfl ?_
    refine zGetI d_X8_hasPlace_6 ff_X8_35 hh.1 (Nat.lt_of_succ_lt hh.2.2.1) (q := 9) rfl ?_
    refine zIcmp_ge d_X8_hasPlace_9 (tgt := 16) (q := 12) (by decide) rfl (fun h9 => ?_) (fun h9 => ?_)
    · refine zIconst d_X8_hasPlace_16 (v := 0) ic_0 (q := 17) rfl ?_
      refine zIret d_X8_hasPlace_17 rfl rfl rfl ?_
      exact zPi (by unfold bi; grind)
    · refine zIconst d_X8_hasPlace_12 (v := 1) ic_1 (q := 13) rfl ?_
      refine zGoto d_X8_hasPlace_13 (q := 17) (by decide) ?_
      refine zIret d_X8_hasPlace_17 rfl rfl rfl ?_
      exact zPi (by unfold bi; grind)
theorem sp_X8_hasRun (hd : 1 ≤ d) (hh : zShf h) {i n : Int32} : zPure g l d m_X8_hasRun [.ref h, .int i, .int n] I L fs (.int (bi (0 ≤ i ∧ i ≤ I h 2 ∧ n ≤ I h 2 - i))) := by
  refine zSp_of (lv := [(0, .ref h), (1, .int i), (2, .int n)]) k_X8_hasRun rfl (Nat.le_of_ble_eq_true rfl) ?_
  refine zIloadN d_X8_hasRun_0 rfl rfl (q := 1) rfl ?_
  refine zIf_lt d_X8_hasRun_1 (tgt := 26) (q := 4) (by decide) rfl (fun h1 => ?_) (fun h1 => ?_)
  · refine zIconst d_X8_hasRun_26 (v := 0) ic_0 (q := 27) rfl ?_
    refine zIret d_X8_hasRun_27 rfl rfl rfl ?_
    exact zPi (by unfold bi; grind)
  · refine zIloadN d_X8_hasRun_4 rfl rfl (q := 5) rfl ?_
    refine zAloadN d_X8_hasRun_5 rfl rfl (q := 6) rfl ?_
    refine zGetI d_X8_hasRun_6 ff_X8_35 hh.1 (Nat.lt_of_succ_lt hh.2.2.1) (q := 9) rfl ?_
    refine zIcmp_gt d_X8_hasRun_9 (tgt := 26) (q := 12) (by decide) rfl (fun h9 => ?_) (fun h9 => ?_)
    · refine zIconst d_X8_hasRun_26 (v := 0) ic_0 (q := 27) rfl ?_
      refine zIret d_X8_hasRun_27 rfl rfl rfl ?_
      exact zPi (by unfold bi; grind)
    · refine zIloadN d_X8_hasRun_12 rfl rfl (q := 13) rfl ?_
      refine zAloadN d_X8_hasRun_13 rfl rfl (q := 14) rfl ?_
      refine zGetI d_X8_hasRun_14 ff_X8_35 hh.1 (Nat.lt_of_succ_lt hh.2.2.1) (q := 17) rfl ?_
      refine zIloadN d_X8_hasRun_17 rfl rfl (q := 18) rfl ?_
      refine zIsub d_X8_hasRun_18 (q := 19) rfl ?_
      refine zIcmp_gt d_X8_hasRun_19 (tgt := 26) (q := 22) (by decide) rfl (fun h19 => ?_) (fun h19 => ?_)
      · refine zIconst d_X8_hasRun_26 (v := 0) ic_0 (q := 27) rfl ?_
        refine zIret d_X8_hasRun_27 rfl rfl rfl ?_
        exact zPi (by unfold bi; grind)
      · refine zIconst d_X8_hasRun_22 (v := 1) ic_1 (q := 23) rfl ?_
        refine zGoto d_X8_hasRun_23 (q := 27) (by decide) ?_
        refine zIret d_X8_hasRun_27 rfl rfl rfl ?_
        exact zPi (by unfold bi; grind)
theorem sp_X8_told (hd : 2 ≤ d) (hh : zShf h) {i : Int32} {n : Nat} (hn : I h 2 = nI n) (hn2 : n ≤ 60) : zPure g l d m_X8_told [.ref h, .int i] I L fs (.int (zTold I L h i)) := by
  refine zSp_of (lv := [(0, .ref h), (1, .int i)]) k_X8_told rfl (Nat.le_of_ble_eq_true rfl) ?_
  refine zAloadN d_X8_told_0 rfl rfl (q := 1) rfl ?_
  refine zIloadN d_X8_told_1 rfl rfl (q := 2) rfl ?_
  refine zCallVP d_X8_told_2 ml_X8_38 k_X8_hasPlace ki_X8_hasPlace ks_X8_hasPlace (sp_X8_hasPlace (d := d - 1) (by omega) hh) rfl rfl hh.1 (by decide) rfl (Nat.lt_of_succ_lt hh.2.2.1) (Nat.le_of_ble_eq_true rfl) (by decide) (by omega) zns100 (q := 5) rfl ?_
  refine zIf_eq d_X8_told_5 (tgt := 18) (q := 8) (by decide) rfl (fun h5 => ?_) (fun h5 => ?_)
  · refine zIconst d_X8_told_18 (v := -1) ic_m1 (q := 19) rfl ?_
    refine zIret d_X8_told_19 rfl rfl rfl ?_
    exact zPi (by unfold zTold; first | (rw [if_pos hp, zcl_n (by omega)]) | (rw [if_neg (bi_0.mp h5)]))
  · have hp := bi_n0.mp h5
    obtain ⟨j, hj, rfl⟩ := zn1 (x := i) (n := n) (by omega) hp.1 (hn ▸ hp.2)
    refine zAloadN d_X8_told_8 rfl rfl (q := 9) rfl ?_
    refine zGetR d_X8_told_9 ff_X8_11 hh.1 (Nat.lt_of_succ_lt hh.2.2.1) (hh.2.2.2 _) (q := 12) rfl ?_
    refine zIloadN d_X8_told_12 rfl rfl (q := 13) rfl ?_
    refine zLald d_X8_told_13 hh.2.1 hh.2.2.1 rfl (by omega) (q := 14) rfl ?_
    refine zL2i d_X8_told_14 (q := 15) rfl ?_
    refine zGoto d_X8_told_15 (q := 19) (by decide) ?_
    refine zIret d_X8_told_19 rfl rfl rfl ?_
    exact zPi (by unfold zTold; first | (rw [if_pos hp, zcl_n (by omega)]) | (rw [if_neg (bi_0.mp h5)]))
theorem sp_X8_lowest (hd : 1 ≤ d) (hh : zShf h) {v : Int64} : zPure g l d m_X8_lowest [.ref h, .long v] I L fs (.long (zLow (I h 1) v)) := by
  refine zSp_of (lv := [(0, .ref h), (1, .long v)]) k_X8_lowest rfl (Nat.le_of_ble_eq_true rfl) ?_
  refine zAloadN d_X8_lowest_0 rfl rfl (q := 1) rfl ?_
  refine zGetI d_X8_lowest_1 ff_X8_15 hh.1 (Nat.lt_of_succ_lt hh.2.2.1) (q := 4) rfl ?_
  rcases Decidable.em (I h 1 = (0 : Int32)) with s4_0 | s4_0
  · refine zTabAt s4_0 d_X8_lowest_4 (by decide) (by decide) (off := 36) (by decide) (q := 40) (by decide) ?_
    refine zLloadN d_X8_lowest_40 rfl rfl (q := 41) rfl ?_
    refine zL2i d_X8_lowest_41 (q := 42) rfl ?_
    refine zI2b d_X8_lowest_42 (q := 43) rfl ?_
    refine zI2l d_X8_lowest_43 (q := 44) rfl ?_
    refine zLret d_X8_lowest_44 rfl rfl ?_
    exact zPl (by unfold zLow; simp_all)
  rcases Decidable.em (I h 1 = (1 : Int32)) with s4_1 | s4_1
  · refine zTabAt s4_1 d_X8_lowest_4 (by decide) (by decide) (off := 41) (by decide) (q := 45) (by decide) ?_
    refine zLloadN d_X8_lowest_45 rfl rfl (q := 46) rfl ?_
    refine zL2i d_X8_lowest_46 (q := 47) rfl ?_
    refine zI2s d_X8_lowest_47 (q := 48) rfl ?_
    refine zI2l d_X8_lowest_48 (q := 49) rfl ?_
    refine zLret d_X8_lowest_49 rfl rfl ?_
    exact zPl (by unfold zLow; simp_all)
  rcases Decidable.em (I h 1 = (2 : Int32)) with s4_2 | s4_2
  · refine zTabAt s4_2 d_X8_lowest_4 (by decide) (by decide) (off := 46) (by decide) (q := 50) (by decide) ?_
    refine zLloadN d_X8_lowest_50 rfl rfl (q := 51) rfl ?_
    refine zL2i d_X8_lowest_51 (q := 52) rfl ?_
    refine zI2l d_X8_lowest_52 (q := 53) rfl ?_
    refine zLret d_X8_lowest_53 rfl rfl ?_
    exact zPl (by unfold zLow; simp_all)
  rcases Decidable.em (I h 1 = (3 : Int32)) with s4_3 | s4_3
  · refine zTabAt s4_3 d_X8_lowest_4 (by decide) (by decide) (off := 62) (by decide) (q := 66) (by decide) ?_
    refine zLloadN d_X8_lowest_66 rfl rfl (q := 67) rfl ?_
    refine zLret d_X8_lowest_67 rfl rfl ?_
    exact zPl (by unfold zLow; simp_all)
  rcases Decidable.em (I h 1 = (4 : Int32)) with s4_4 | s4_4
  · refine zTabAt s4_4 d_X8_lowest_4 (by decide) (by decide) (off := 50) (by decide) (q := 54) (by decide) ?_
    refine zLloadN d_X8_lowest_54 rfl rfl (q := 55) rfl ?_
    refine zLconst d_X8_lowest_55 (v := 0) rfl (q := 56) rfl ?_
    refine zLcmp d_X8_lowest_56 (q := 57) rfl ?_
    refine zIf_eq d_X8_lowest_57 (tgt := 64) (q := 60) (by decide) rfl (fun h57 => ?_) (fun h57 => ?_)
    · refine zLconst d_X8_lowest_64 (v := 0) rfl (q := 65) rfl ?_
      refine zLret d_X8_lowest_65 rfl rfl ?_
      exact zPl (by unfold zLow; simp_all)
    · refine zLconst d_X8_lowest_60 (v := 1) rfl (q := 61) rfl ?_
      refine zGoto d_X8_lowest_61 (q := 65) (by decide) ?_
      refine zLret d_X8_lowest_65 rfl rfl ?_
      exact zPl (by unfold zLow; simp_all)
  refine zTabOut d_X8_lowest_4 (by have := lv_neT s4_0 (a := 0) (by decide); have := lv_neT s4_1 (a := 1) (by decide); have := lv_neT s4_2 (a := 2) (by decide); have := lv_neT s4_3 (a := 3) (by decide); have := lv_neT s4_4 (a := 4) (by decide); omega) (q := 66) (by decide) ?_
  refine zLloadN d_X8_lowest_66 rfl rfl (q := 67) rfl ?_
  refine zLret d_X8_lowest_67 rfl rfl ?_
  exact zPl (by unfold zLow; simp_all)
theorem sp_X8_write (hd : 2 ≤ d) (hh : zShf h) {j n : Nat} (hj : j < n) (hn : I h 2 = nI n) (hn2 : n ≤ 60) {v : Int64} : zSp g l d 100 m_X8_write [.ref h, .int (nI j), .long v] (zU I L fs) (zV (fun w => w = zU I (zup L (h + 1) (zup (L (h + 1)) j (zLow (I h 1) v))) fs)) := by
  refine zSp_of (lv := [(0, .ref h), (1, .int (nI j)), (2, .long v)]) k_X8_write rfl (Nat.le_of_ble_eq_true rfl) ?_
  refine zAloadN d_X8_write_0 rfl rfl (q := 1) rfl ?_
  refine zIloadN d_X8_write_1 rfl rfl (q := 2) rfl ?_
  refine zCallVP d_X8_write_2 ml_X8_38 k_X8_hasPlace ki_X8_hasPlace ks_X8_hasPlace (sp_X8_hasPlace (d := d - 1) (by omega) hh) rfl rfl hh.1 (by decide) rfl (Nat.lt_of_succ_lt hh.2.2.1) (Nat.le_of_ble_eq_true rfl) (by decide) (by omega) zns100 (q := 5) rfl ?_
  refine zIf_eq d_X8_write_5 (tgt := 19) (q := 8) (by decide) rfl (fun h => absurd h (bi_n0.mpr ⟨zn_ge (by omega), by rw [hn]; exact (nI_ltI (by omega) (by omega)).mpr hj⟩)) (fun h5 => ?_)
  refine zAloadN d_X8_write_8 rfl rfl (q := 9) rfl ?_
  refine zGetR d_X8_write_9 ff_X8_11 hh.1 (Nat.lt_of_succ_lt hh.2.2.1) (hh.2.2.2 _) (q := 12) rfl ?_
  refine zIloadN d_X8_write_12 rfl rfl (q := 13) rfl ?_
  refine zAloadN d_X8_write_13 rfl rfl (q := 14) rfl ?_
  refine zLloadN d_X8_write_14 rfl rfl (q := 15) rfl ?_
  refine zCallVP d_X8_write_15 ml_X8_42 k_X8_lowest ki_X8_lowest ks_X8_lowest (sp_X8_lowest (d := d - 1) (by omega) hh) rfl rfl hh.1 (by decide) rfl (Nat.lt_of_succ_lt hh.2.2.1) (Nat.le_of_ble_eq_true rfl) (by decide) (by omega) zns100 (q := 18) rfl ?_
  refine zLast d_X8_write_18 hh.2.1 hh.2.2.1 rfl (by omega) (q := 19) rfl ?_
  refine zVret d_X8_write_19 rfl rfl ?_
  exact ⟨rfl, rfl⟩
end S11

