def zRL : List (List (Option Nat)) := [[some 1, some 16, some 19, some 22, some 24, some 29, some 31, some 36, some 38, some 41], [some 2, some 11, some 15], [some 3, some 4, some 5, some 6, some 7, some 8, some 9, some 10, some 11, some 12, some 13, some 14], [], [], [], [], [], [], [], [], [], [], [], [], [], [some 1, some 17, some 18], [], [], [some 1, some 20, some 21], [], [], [some 1, some 23], [], [some 25, some 26, some 27, some 28], [], [], [], [], [some 30], [], [some 32, some 33, some 34, some 35], [], [], [], [], [some 37], [], [some 39, some 40], [], [], [some 42, some 44, some 46, some 48, some 50, some 52], [some 43], [], [some 45], [], [some 47], [], [some 49], [], [some 51], [], [some 53], [], [some 55, some 56, some 57, some 58], [], [], [], [], [some 60, some 61, some 62, some 63], [], [], [], [], [none, none, some 65, some 66, some 67, some 68, some 69, some 70, none, some 71, some 72, none, some 73, some 74, none, none, some 75, some 76, some 77, some 78, some 79, none, none, none, none, none, some 80, some 81, some 82, some 83, some 84, some 85, some 86, none, none, some 87, some 88, some 89, some 90, none, some 91, some 92, none, none, none, none, none, none, some 93, none, some 94, none, some 95, some 96, some 97, some 98, some 99], [], [], [], [], [], [], [], [], [], [], [], [], [], [], [], [], [], [], [], [], [], [], [], [], [], [], [], [], [], [], [], [], [], [], []]
def zR0 (a k : Nat) : Option Nat := (zRL.getD a []).getD k none
/-- the references, once the constructors are through: all fixed, but the two laws and where the tape is read into -/
def zR (fs : Nat × Nat × Option Nat) (a k : Nat) : Option Nat := if a = 0 then (if k = 10 then some fs.1 else if k = 11 then some fs.2.1 else zR0 0 k) else if a = 29 then (if k = 3 then fs.2.2 else zR0 29 k) else zR0 a k
theorem sh_0 : zsh 0 = (11, 12) := rfl
theorem sh_1 : zsh 1 = (9, 6) := rfl
theorem sh_2 : zsh 2 = (24, 12) := rfl
theorem sh_3 : zsh 3 = (20, 10) := rfl
theorem sh_4 : zsh 4 = (20, 10) := rfl
theorem sh_5 : zsh 5 = (20, 10) := rfl
theorem sh_6 : zsh 6 = (20, 10) := rfl
theorem sh_7 : zsh 7 = (20, 10) := rfl
theorem sh_8 : zsh 8 = (20, 10) := rfl
theorem sh_9 : zsh 9 = (20, 10) := rfl
theorem sh_10 : zsh 10 = (20, 10) := rfl
theorem sh_11 : zsh 11 = (20, 10) := rfl
theorem sh_12 : zsh 12 = (20, 10) := rfl
theorem sh_13 : zsh 13 = (20, 10) := rfl
theorem sh_14 : zsh 14 = (20, 10) := rfl
theorem sh_15 : zsh 15 = (20, 5) := rfl
theorem sh_16 : zsh 16 = (4, 9) := rfl
theorem sh_17 : zsh 17 = (20, 12) := rfl
theorem sh_18 : zsh 18 = (20, 12) := rfl
theorem sh_19 : zsh 19 = (2, 6) := rfl
theorem sh_20 : zsh 20 = (20, 8) := rfl
theorem sh_21 : zsh 21 = (20, 8) := rfl
theorem sh_22 : zsh 22 = (3, 4) := rfl
theorem sh_23 : zsh 23 = (20, 24) := rfl
theorem sh_24 : zsh 24 = (7, 7) := rfl
theorem sh_25 : zsh 25 = (20, 10) := rfl
theorem sh_26 : zsh 26 = (20, 10) := rfl
theorem sh_27 : zsh 27 = (20, 10) := rfl
theorem sh_28 : zsh 28 = (20, 4) := rfl
theorem sh_29 : zsh 29 = (10, 4) := rfl
theorem sh_30 : zsh 30 = (20, 120) := rfl
theorem sh_31 : zsh 31 = (1, 6) := rfl
theorem sh_32 : zsh 32 = (20, 40) := rfl
theorem sh_33 : zsh 33 = (20, 40) := rfl
theorem sh_34 : zsh 34 = (20, 40) := rfl
theorem sh_35 : zsh 35 = (20, 40) := rfl
theorem sh_36 : zsh 36 = (5, 7) := rfl
theorem sh_37 : zsh 37 = (20, 5) := rfl
theorem sh_38 : zsh 38 = (0, 4) := rfl
theorem sh_39 : zsh 39 = (20, 50) := rfl
theorem sh_40 : zsh 40 = (20, 24) := rfl
theorem sh_41 : zsh 41 = (25, 6) := rfl
theorem sh_42 : zsh 42 = (8, 4) := rfl
theorem sh_43 : zsh 43 = (21, 60) := rfl
theorem sh_44 : zsh 44 = (8, 4) := rfl
theorem sh_45 : zsh 45 = (21, 60) := rfl
theorem sh_46 : zsh 46 = (8, 4) := rfl
theorem sh_47 : zsh 47 = (21, 60) := rfl
theorem sh_48 : zsh 48 = (8, 4) := rfl
theorem sh_49 : zsh 49 = (21, 60) := rfl
theorem sh_50 : zsh 50 = (8, 4) := rfl
theorem sh_51 : zsh 51 = (21, 60) := rfl
theorem sh_52 : zsh 52 = (8, 4) := rfl
theorem sh_53 : zsh 53 = (21, 60) := rfl
theorem sh_54 : zsh 54 = (6, 5) := rfl
theorem sh_55 : zsh 55 = (20, 128) := rfl
theorem sh_56 : zsh 56 = (20, 128) := rfl
theorem sh_57 : zsh 57 = (20, 128) := rfl
theorem sh_58 : zsh 58 = (20, 6) := rfl
theorem sh_59 : zsh 59 = (6, 5) := rfl
theorem sh_60 : zsh 60 = (20, 128) := rfl
theorem sh_61 : zsh 61 = (20, 128) := rfl
theorem sh_62 : zsh 62 = (20, 128) := rfl
theorem sh_63 : zsh 63 = (20, 6) := rfl
theorem sh_64 : zsh 64 = (12, 57) := rfl
theorem sh_65 : zsh 65 = (20, 10) := rfl
theorem sh_66 : zsh 66 = (20, 10) := rfl
theorem sh_67 : zsh 67 = (20, 10) := rfl
theorem sh_68 : zsh 68 = (20, 10) := rfl
theorem sh_69 : zsh 69 = (20, 10) := rfl
theorem sh_70 : zsh 70 = (20, 10) := rfl
theorem sh_71 : zsh 71 = (20, 4) := rfl
theorem sh_72 : zsh 72 = (20, 4) := rfl
theorem sh_73 : zsh 73 = (20, 6) := rfl
theorem sh_74 : zsh 74 = (20, 3) := rfl
theorem sh_75 : zsh 75 = (20, 40) := rfl
theorem sh_76 : zsh 76 = (20, 40) := rfl
theorem sh_77 : zsh 77 = (20, 40) := rfl
theorem sh_78 : zsh 78 = (20, 40) := rfl
theorem sh_79 : zsh 79 = (22, 120) := rfl
theorem sh_80 : zsh 80 = (22, 260) := rfl
theorem sh_81 : zsh 81 = (20, 260) := rfl
theorem sh_82 : zsh 82 = (20, 2) := rfl
theorem sh_83 : zsh 83 = (23, 122) := rfl
theorem sh_84 : zsh 84 = (23, 122) := rfl
theorem sh_85 : zsh 85 = (20, 6) := rfl
theorem sh_86 : zsh 86 = (20, 130) := rfl
theorem sh_87 : zsh 87 = (20, 10) := rfl
theorem sh_88 : zsh 88 = (20, 10) := rfl
theorem sh_89 : zsh 89 = (20, 10) := rfl
theorem sh_90 : zsh 90 = (20, 4) := rfl
theorem sh_91 : zsh 91 = (20, 4) := rfl
theorem sh_92 : zsh 92 = (20, 5) := rfl
theorem sh_93 : zsh 93 = (20, 5) := rfl
theorem sh_94 : zsh 94 = (20, 50) := rfl
theorem sh_95 : zsh 95 = (20, 24) := rfl
theorem sh_96 : zsh 96 = (20, 6) := rfl
theorem sh_97 : zsh 97 = (20, 6) := rfl
theorem sh_98 : zsh 98 = (21, 360) := rfl
theorem sh_99 : zsh 99 = (21, 60) := rfl
theorem r_0_0 {fs : Nat × Nat × Option Nat} : zR fs 0 0 = some 1 := rfl
theorem r_0_1 {fs : Nat × Nat × Option Nat} : zR fs 0 1 = some 16 := rfl
theorem r_0_2 {fs : Nat × Nat × Option Nat} : zR fs 0 2 = some 19 := rfl
theorem r_0_3 {fs : Nat × Nat × Option Nat} : zR fs 0 3 = some 22 := rfl
theorem r_0_4 {fs : Nat × Nat × Option Nat} : zR fs 0 4 = some 24 := rfl
theorem r_0_5 {fs : Nat × Nat × Option Nat} : zR fs 0 5 = some 29 := rfl
theorem r_0_6 {fs : Nat × Nat × Option Nat} : zR fs 0 6 = some 31 := rfl
theorem r_0_7 {fs : Nat × Nat × Option Nat} : zR fs 0 7 = some 36 := rfl
theorem r_0_8 {fs : Nat × Nat × Option Nat} : zR fs 0 8 = some 38 := rfl
theorem r_0_9 {fs : Nat × Nat × Option Nat} : zR fs 0 9 = some 41 := rfl
theorem r_1_0 {fs : Nat × Nat × Option Nat} : zR fs 1 0 = some 2 := rfl
theorem r_1_1 {fs : Nat × Nat × Option Nat} : zR fs 1 1 = some 11 := rfl
theorem r_1_2 {fs : Nat × Nat × Option Nat} : zR fs 1 2 = some 15 := rfl
theorem r_2_0 {fs : Nat × Nat × Option Nat} : zR fs 2 0 = some 3 := rfl
theorem r_2_1 {fs : Nat × Nat × Option Nat} : zR fs 2 1 = some 4 := rfl
theorem r_2_2 {fs : Nat × Nat × Option Nat} : zR fs 2 2 = some 5 := rfl
theorem r_2_3 {fs : Nat × Nat × Option Nat} : zR fs 2 3 = some 6 := rfl
theorem r_2_4 {fs : Nat × Nat × Option Nat} : zR fs 2 4 = some 7 := rfl
theorem r_2_5 {fs : Nat × Nat × Option Nat} : zR fs 2 5 = some 8 := rfl
theorem r_2_6 {fs : Nat × Nat × Option Nat} : zR fs 2 6 = some 9 := rfl
theorem r_2_7 {fs : Nat × Nat × Option Nat} : zR fs 2 7 = some 10 := rfl
theorem r_2_8 {fs : Nat × Nat × Option Nat} : zR fs 2 8 = some 11 := rfl
theorem r_2_9 {fs : Nat × Nat × Option Nat} : zR fs 2 9 = some 12 := rfl
theorem r_2_10 {fs : Nat × Nat × Option Nat} : zR fs 2 10 = some 13 := rfl
theorem r_2_11 {fs : Nat × Nat × Option Nat} : zR fs 2 11 = some 14 := rfl
theorem r_16_0 {fs : Nat × Nat × Option Nat} : zR fs 16 0 = some 1 := rfl
theorem r_16_1 {fs : Nat × Nat × Option Nat} : zR fs 16 1 = some 17 := rfl
theorem r_16_2 {fs : Nat × Nat × Option Nat} : zR fs 16 2 = some 18 := rfl
theorem r_19_0 {fs : Nat × Nat × Option Nat} : zR fs 19 0 = some 1 := rfl
theorem r_19_1 {fs : Nat × Nat × Option Nat} : zR fs 19 1 = some 20 := rfl
theorem r_19_2 {fs : Nat × Nat × Option Nat} : zR fs 19 2 = some 21 := rfl
theorem r_22_0 {fs : Nat × Nat × Option Nat} : zR fs 22 0 = some 1 := rfl
theorem r_22_1 {fs : Nat × Nat × Option Nat} : zR fs 22 1 = some 23 := rfl
theorem r_24_0 {fs : Nat × Nat × Option Nat} : zR fs 24 0 = some 25 := rfl
theorem r_24_1 {fs : Nat × Nat × Option Nat} : zR fs 24 1 = some 26 := rfl
theorem r_24_2 {fs : Nat × Nat × Option Nat} : zR fs 24 2 = some 27 := rfl
theorem r_24_3 {fs : Nat × Nat × Option Nat} : zR fs 24 3 = some 28 := rfl
theorem r_29_0 {fs : Nat × Nat × Option Nat} : zR fs 29 0 = some 30 := rfl
theorem r_31_0 {fs : Nat × Nat × Option Nat} : zR fs 31 0 = some 32 := rfl
theorem r_31_1 {fs : Nat × Nat × Option Nat} : zR fs 31 1 = some 33 := rfl
theorem r_31_2 {fs : Nat × Nat × Option Nat} : zR fs 31 2 = some 34 := rfl
theorem r_31_3 {fs : Nat × Nat × Option Nat} : zR fs 31 3 = some 35 := rfl
theorem r_36_0 {fs : Nat × Nat × Option Nat} : zR fs 36 0 = some 37 := rfl
theorem r_38_0 {fs : Nat × Nat × Option Nat} : zR fs 38 0 = some 39 := rfl
theorem r_38_1 {fs : Nat × Nat × Option Nat} : zR fs 38 1 = some 40 := rfl
theorem r_41_0 {fs : Nat × Nat × Option Nat} : zR fs 41 0 = some 42 := rfl
theorem r_41_1 {fs : Nat × Nat × Option Nat} : zR fs 41 1 = some 44 := rfl
theorem r_41_2 {fs : Nat × Nat × Option Nat} : zR fs 41 2 = some 46 := rfl
theorem r_41_3 {fs : Nat × Nat × Option Nat} : zR fs 41 3 = some 48 := rfl
theorem r_41_4 {fs : Nat × Nat × Option Nat} : zR fs 41 4 = some 50 := rfl
theorem r_41_5 {fs : Nat × Nat × Option Nat} : zR fs 41 5 = some 52 := rfl
theorem r_42_0 {fs : Nat × Nat × Option Nat} : zR fs 42 0 = some 43 := rfl
theorem r_44_0 {fs : Nat × Nat × Option Nat} : zR fs 44 0 = some 45 := rfl
theorem r_46_0 {fs : Nat × Nat × Option Nat} : zR fs 46 0 = some 47 := rfl
theorem r_48_0 {fs : Nat × Nat × Option Nat} : zR fs 48 0 = some 49 := rfl
theorem r_50_0 {fs : Nat × Nat × Option Nat} : zR fs 50 0 = some 51 := rfl
theorem r_52_0 {fs : Nat × Nat × Option Nat} : zR fs 52 0 = some 53 := rfl
theorem r_54_0 {fs : Nat × Nat × Option Nat} : zR fs 54 0 = some 55 := rfl
theorem r_54_1 {fs : Nat × Nat × Option Nat} : zR fs 54 1 = some 56 := rfl
theorem r_54_2 {fs : Nat × Nat × Option Nat} : zR fs 54 2 = some 57 := rfl
theorem r_54_3 {fs : Nat × Nat × Option Nat} : zR fs 54 3 = some 58 := rfl
theorem r_59_0 {fs : Nat × Nat × Option Nat} : zR fs 59 0 = some 60 := rfl
theorem r_59_1 {fs : Nat × Nat × Option Nat} : zR fs 59 1 = some 61 := rfl
theorem r_59_2 {fs : Nat × Nat × Option Nat} : zR fs 59 2 = some 62 := rfl
theorem r_59_3 {fs : Nat × Nat × Option Nat} : zR fs 59 3 = some 63 := rfl
theorem r_64_2 {fs : Nat × Nat × Option Nat} : zR fs 64 2 = some 65 := rfl
theorem r_64_3 {fs : Nat × Nat × Option Nat} : zR fs 64 3 = some 66 := rfl
theorem r_64_4 {fs : Nat × Nat × Option Nat} : zR fs 64 4 = some 67 := rfl
theorem r_64_5 {fs : Nat × Nat × Option Nat} : zR fs 64 5 = some 68 := rfl
theorem r_64_6 {fs : Nat × Nat × Option Nat} : zR fs 64 6 = some 69 := rfl
theorem r_64_7 {fs : Nat × Nat × Option Nat} : zR fs 64 7 = some 70 := rfl
theorem r_64_9 {fs : Nat × Nat × Option Nat} : zR fs 64 9 = some 71 := rfl
theorem r_64_10 {fs : Nat × Nat × Option Nat} : zR fs 64 10 = some 72 := rfl
theorem r_64_12 {fs : Nat × Nat × Option Nat} : zR fs 64 12 = some 73 := rfl
theorem r_64_13 {fs : Nat × Nat × Option Nat} : zR fs 64 13 = some 74 := rfl
theorem r_64_16 {fs : Nat × Nat × Option Nat} : zR fs 64 16 = some 75 := rfl
theorem r_64_17 {fs : Nat × Nat × Option Nat} : zR fs 64 17 = some 76 := rfl
theorem r_64_18 {fs : Nat × Nat × Option Nat} : zR fs 64 18 = some 77 := rfl
theorem r_64_19 {fs : Nat × Nat × Option Nat} : zR fs 64 19 = some 78 := rfl
theorem r_64_20 {fs : Nat × Nat × Option Nat} : zR fs 64 20 = some 79 := rfl
theorem r_64_26 {fs : Nat × Nat × Option Nat} : zR fs 64 26 = some 80 := rfl
theorem r_64_27 {fs : Nat × Nat × Option Nat} : zR fs 64 27 = some 81 := rfl
theorem r_64_28 {fs : Nat × Nat × Option Nat} : zR fs 64 28 = some 82 := rfl
theorem r_64_29 {fs : Nat × Nat × Option Nat} : zR fs 64 29 = some 83 := rfl
theorem r_64_30 {fs : Nat × Nat × Option Nat} : zR fs 64 30 = some 84 := rfl
theorem r_64_31 {fs : Nat × Nat × Option Nat} : zR fs 64 31 = some 85 := rfl
theorem r_64_32 {fs : Nat × Nat × Option Nat} : zR fs 64 32 = some 86 := rfl
theorem r_64_35 {fs : Nat × Nat × Option Nat} : zR fs 64 35 = some 87 := rfl
theorem r_64_36 {fs : Nat × Nat × Option Nat} : zR fs 64 36 = some 88 := rfl
theorem r_64_37 {fs : Nat × Nat × Option Nat} : zR fs 64 37 = some 89 := rfl
theorem r_64_38 {fs : Nat × Nat × Option Nat} : zR fs 64 38 = some 90 := rfl
theorem r_64_40 {fs : Nat × Nat × Option Nat} : zR fs 64 40 = some 91 := rfl
theorem r_64_41 {fs : Nat × Nat × Option Nat} : zR fs 64 41 = some 92 := rfl
theorem r_64_48 {fs : Nat × Nat × Option Nat} : zR fs 64 48 = some 93 := rfl
theorem r_64_50 {fs : Nat × Nat × Option Nat} : zR fs 64 50 = some 94 := rfl
theorem r_64_52 {fs : Nat × Nat × Option Nat} : zR fs 64 52 = some 95 := rfl
theorem r_64_53 {fs : Nat × Nat × Option Nat} : zR fs 64 53 = some 96 := rfl
theorem r_64_54 {fs : Nat × Nat × Option Nat} : zR fs 64 54 = some 97 := rfl
theorem r_64_55 {fs : Nat × Nat × Option Nat} : zR fs 64 55 = some 98 := rfl
theorem r_64_56 {fs : Nat × Nat × Option Nat} : zR fs 64 56 = some 99 := rfl
theorem ff_X9_13 : zFL RX9 13 9 0 true := ⟨fl_X9_13, by decide, by decide, rfl⟩
theorem ff_X9_16 : zFL RX9 16 9 1 true := ⟨fl_X9_16, by decide, by decide, rfl⟩
theorem ff_X4_26 : zFL RX4 26 9 1 true := ⟨fl_X4_26, by decide, by decide, rfl⟩
theorem ff_X9_20 : zFL RX9 20 9 2 true := ⟨fl_X9_20, by decide, by decide, rfl⟩
theorem ff_X5_40 : zFL RX5 40 9 2 true := ⟨fl_X5_40, by decide, by decide, rfl⟩
theorem ff_X11_284 : zFL RX11 284 9 2 true := ⟨fl_X11_284, by decide, by decide, rfl⟩
theorem ff_X9_23 : zFL RX9 23 9 3 false := ⟨fl_X9_23, by decide, by decide, rfl⟩
theorem ff_X5_26 : zFL RX5 26 9 3 false := ⟨fl_X5_26, by decide, by decide, rfl⟩
theorem ff_X3_41 : zFL RX3 41 9 3 false := ⟨fl_X3_41, by decide, by decide, rfl⟩
theorem ff_X4_85 : zFL RX4 85 9 3 false := ⟨fl_X4_85, by decide, by decide, rfl⟩
theorem ff_X11_370 : zFL RX11 370 9 3 false := ⟨fl_X11_370, by decide, by decide, rfl⟩
theorem ff_X9_27 : zFL RX9 27 9 4 false := ⟨fl_X9_27, by decide, by decide, rfl⟩
theorem ff_X11_189 : zFL RX11 189 9 4 false := ⟨fl_X11_189, by decide, by decide, rfl⟩
theorem ff_X4_20 : zFL RX4 20 9 5 false := ⟨fl_X4_20, by decide, by decide, rfl⟩
theorem ff_X9_30 : zFL RX9 30 9 5 false := ⟨fl_X9_30, by decide, by decide, rfl⟩
theorem ff_X11_380 : zFL RX11 380 9 5 false := ⟨fl_X11_380, by decide, by decide, rfl⟩
theorem ff_X4_16 : zFL RX4 16 4 0 true := ⟨fl_X4_16, by decide, by decide, rfl⟩
theorem ff_X4_9 : zFL RX4 9 4 1 true := ⟨fl_X4_9, by decide, by decide, rfl⟩
theorem ff_X4_13 : zFL RX4 13 4 2 true := ⟨fl_X4_13, by decide, by decide, rfl⟩
theorem ff_X4_43 : zFL RX4 43 4 3 false := ⟨fl_X4_43, by decide, by decide, rfl⟩
theorem ff_X4_57 : zFL RX4 57 4 4 false := ⟨fl_X4_57, by decide, by decide, rfl⟩
theorem ff_X11_244 : zFL RX11 244 4 4 false := ⟨fl_X11_244, by decide, by decide, rfl⟩
theorem ff_X4_60 : zFL RX4 60 4 5 false := ⟨fl_X4_60, by decide, by decide, rfl⟩
theorem ff_X11_247 : zFL RX11 247 4 5 false := ⟨fl_X11_247, by decide, by decide, rfl⟩
theorem ff_X4_73 : zFL RX4 73 4 6 false := ⟨fl_X4_73, by decide, by decide, rfl⟩
theorem ff_X4_82 : zFL RX4 82 4 7 false := ⟨fl_X4_82, by decide, by decide, rfl⟩
theorem ff_X11_266 : zFL RX11 266 4 7 false := ⟨fl_X11_266, by decide, by decide, rfl⟩
theorem ff_X4_75 : zFL RX4 75 4 8 false := ⟨fl_X4_75, by decide, by decide, rfl⟩
theorem ff_X11_269 : zFL RX11 269 4 8 false := ⟨fl_X11_269, by decide, by decide, rfl⟩
theorem ff_X2_18 : zFL RX2 18 2 0 true := ⟨fl_X2_18, by decide, by decide, rfl⟩
theorem ff_X2_11 : zFL RX2 11 2 1 true := ⟨fl_X2_11, by decide, by decide, rfl⟩
theorem ff_X2_15 : zFL RX2 15 2 2 true := ⟨fl_X2_15, by decide, by decide, rfl⟩
theorem ff_X2_22 : zFL RX2 22 2 3 false := ⟨fl_X2_22, by decide, by decide, rfl⟩
theorem ff_X2_38 : zFL RX2 38 2 4 false := ⟨fl_X2_38, by decide, by decide, rfl⟩
theorem ff_X11_256 : zFL RX11 256 2 4 false := ⟨fl_X11_256, by decide, by decide, rfl⟩
theorem ff_X2_41 : zFL RX2 41 2 5 false := ⟨fl_X2_41, by decide, by decide, rfl⟩
theorem ff_X11_259 : zFL RX11 259 2 5 false := ⟨fl_X11_259, by decide, by decide, rfl⟩
theorem ff_X3_15 : zFL RX3 15 3 0 true := ⟨fl_X3_15, by decide, by decide, rfl⟩
theorem ff_X3_9 : zFL RX3 9 3 1 true := ⟨fl_X3_9, by decide, by decide, rfl⟩
theorem ff_X3_22 : zFL RX3 22 3 2 false := ⟨fl_X3_22, by decide, by decide, rfl⟩
theorem ff_X11_222 : zFL RX11 222 3 2 false := ⟨fl_X11_222, by decide, by decide, rfl⟩
theorem ff_X3_26 : zFL RX3 26 3 3 false := ⟨fl_X3_26, by decide, by decide, rfl⟩
theorem ff_X11_225 : zFL RX11 225 3 3 false := ⟨fl_X11_225, by decide, by decide, rfl⟩
theorem ff_X7_9 : zFL RX7 9 7 0 true := ⟨fl_X7_9, by decide, by decide, rfl⟩
theorem ff_X7_15 : zFL RX7 15 7 1 true := ⟨fl_X7_15, by decide, by decide, rfl⟩
theorem ff_X11_174 : zFL RX11 174 7 1 true := ⟨fl_X11_174, by decide, by decide, rfl⟩
theorem ff_X7_18 : zFL RX7 18 7 2 true := ⟨fl_X7_18, by decide, by decide, rfl⟩
theorem ff_X11_180 : zFL RX11 180 7 2 true := ⟨fl_X11_180, by decide, by decide, rfl⟩
theorem ff_X7_21 : zFL RX7 21 7 3 true := ⟨fl_X7_21, by decide, by decide, rfl⟩
theorem ff_X7_28 : zFL RX7 28 7 4 false := ⟨fl_X7_28, by decide, by decide, rfl⟩
theorem ff_X11_171 : zFL RX11 171 7 4 false := ⟨fl_X11_171, by decide, by decide, rfl⟩
theorem ff_X7_36 : zFL RX7 36 7 5 false := ⟨fl_X7_36, by decide, by decide, rfl⟩
theorem ff_X11_167 : zFL RX11 167 7 5 false := ⟨fl_X11_167, by decide, by decide, rfl⟩
theorem ff_X7_62 : zFL RX7 62 7 6 false := ⟨fl_X7_62, by decide, by decide, rfl⟩
theorem ff_X11_272 : zFL RX11 272 7 6 false := ⟨fl_X11_272, by decide, by decide, rfl⟩
theorem ff_X10_11 : zFL RX10 11 10 0 true := ⟨fl_X10_11, by decide, by decide, rfl⟩
theorem ff_X10_15 : zFL RX10 15 10 1 false := ⟨fl_X10_15, by decide, by decide, rfl⟩
theorem ff_X11_373 : zFL RX11 373 10 1 false := ⟨fl_X11_373, by decide, by decide, rfl⟩
theorem ff_X10_28 : zFL RX10 28 10 2 false := ⟨fl_X10_28, by decide, by decide, rfl⟩
theorem ff_X10_24 : zFL RX10 24 10 3 true := ⟨fl_X10_24, by decide, by decide, rfl⟩
theorem ff_X1_11 : zFL RX1 11 1 0 true := ⟨fl_X1_11, by decide, by decide, rfl⟩
theorem ff_X1_15 : zFL RX1 15 1 1 true := ⟨fl_X1_15, by decide, by decide, rfl⟩
theorem ff_X1_18 : zFL RX1 18 1 2 true := ⟨fl_X1_18, by decide, by decide, rfl⟩
theorem ff_X1_21 : zFL RX1 21 1 3 true := ⟨fl_X1_21, by decide, by decide, rfl⟩
theorem ff_X1_24 : zFL RX1 24 1 4 false := ⟨fl_X1_24, by decide, by decide, rfl⟩
theorem ff_X11_376 : zFL RX11 376 1 4 false := ⟨fl_X11_376, by decide, by decide, rfl⟩
theorem ff_X1_31 : zFL RX1 31 1 5 false := ⟨fl_X1_31, by decide, by decide, rfl⟩
theorem ff_X5_9 : zFL RX5 9 5 0 true := ⟨fl_X5_9, by decide, by decide, rfl⟩
theorem ff_X5_19 : zFL RX5 19 5 1 false := ⟨fl_X5_19, by decide, by decide, rfl⟩
theorem ff_X5_23 : zFL RX5 23 5 2 false := ⟨fl_X5_23, by decide, by decide, rfl⟩
theorem ff_X5_29 : zFL RX5 29 5 3 false := ⟨fl_X5_29, by decide, by decide, rfl⟩
theorem ff_X5_34 : zFL RX5 34 5 4 false := ⟨fl_X5_34, by decide, by decide, rfl⟩
theorem ff_X5_37 : zFL RX5 37 5 5 false := ⟨fl_X5_37, by decide, by decide, rfl⟩
theorem ff_X5_47 : zFL RX5 47 5 6 false := ⟨fl_X5_47, by decide, by decide, rfl⟩
theorem ff_X11_296 : zFL RX11 296 5 6 false := ⟨fl_X11_296, by decide, by decide, rfl⟩
theorem ff_X0_11 : zFL RX0 11 0 0 true := ⟨fl_X0_11, by decide, by decide, rfl⟩
theorem ff_X0_15 : zFL RX0 15 0 1 true := ⟨fl_X0_15, by decide, by decide, rfl⟩
theorem ff_X11_317 : zFL RX11 317 0 1 true := ⟨fl_X11_317, by decide, by decide, rfl⟩
theorem ff_X0_18 : zFL RX0 18 0 2 false := ⟨fl_X0_18, by decide, by decide, rfl⟩
theorem ff_X11_320 : zFL RX11 320 0 2 false := ⟨fl_X11_320, by decide, by decide, rfl⟩
theorem ff_X0_29 : zFL RX0 29 0 3 false := ⟨fl_X0_29, by decide, by decide, rfl⟩
theorem ff_X11_377 : zFL RX11 377 0 3 false := ⟨fl_X11_377, by decide, by decide, rfl⟩
theorem ff_X8_11 : zFL RX8 11 8 0 true := ⟨fl_X8_11, by decide, by decide, rfl⟩
theorem ff_X11_342 : zFL RX11 342 8 0 true := ⟨fl_X11_342, by decide, by decide, rfl⟩
theorem ff_X8_15 : zFL RX8 15 8 1 false := ⟨fl_X8_15, by decide, by decide, rfl⟩
theorem ff_X11_346 : zFL RX11 346 8 1 false := ⟨fl_X11_346, by decide, by decide, rfl⟩
theorem ff_X8_35 : zFL RX8 35 8 2 false := ⟨fl_X8_35, by decide, by decide, rfl⟩
theorem ff_X8_23 : zFL RX8 23 8 3 false := ⟨fl_X8_23, by decide, by decide, rfl⟩
theorem ff_X11_361 : zFL RX11 361 8 3 false := ⟨fl_X11_361, by decide, by decide, rfl⟩
theorem ff_X6_9 : zFL RX6 9 6 0 true := ⟨fl_X6_9, by decide, by decide, rfl⟩
theorem ff_X6_13 : zFL RX6 13 6 1 true := ⟨fl_X6_13, by decide, by decide, rfl⟩
theorem ff_X6_16 : zFL RX6 16 6 2 true := ⟨fl_X6_16, by decide, by decide, rfl⟩
theorem ff_X6_19 : zFL RX6 19 6 3 true := ⟨fl_X6_19, by decide, by decide, rfl⟩
theorem ff_X6_22 : zFL RX6 22 6 4 false := ⟨fl_X6_22, by decide, by decide, rfl⟩
theorem ff_X10_43 : zFL RX10 43 6 4 false := ⟨fl_X10_43, by decide, by decide, rfl⟩
theorem ff_X11_10 : zFL RX11 10 11 0 true := ⟨fl_X11_10, by decide, by decide, rfl⟩
theorem ff_X11_21 : zFL RX11 21 11 1 true := ⟨fl_X11_21, by decide, by decide, rfl⟩
theorem ff_X11_28 : zFL RX11 28 11 2 true := ⟨fl_X11_28, by decide, by decide, rfl⟩
theorem ff_X11_35 : zFL RX11 35 11 3 true := ⟨fl_X11_35, by decide, by decide, rfl⟩
theorem ff_X11_42 : zFL RX11 42 11 4 true := ⟨fl_X11_42, by decide, by decide, rfl⟩
theorem ff_X11_49 : zFL RX11 49 11 5 true := ⟨fl_X11_49, by decide, by decide, rfl⟩
theorem ff_X11_56 : zFL RX11 56 11 6 true := ⟨fl_X11_56, by decide, by decide, rfl⟩
theorem ff_X11_63 : zFL RX11 63 11 7 true := ⟨fl_X11_63, by decide, by decide, rfl⟩
theorem ff_X11_70 : zFL RX11 70 11 8 true := ⟨fl_X11_70, by decide, by decide, rfl⟩
theorem ff_X11_76 : zFL RX11 76 11 9 true := ⟨fl_X11_76, by decide, by decide, rfl⟩
theorem ff_X11_84 : zFL RX11 84 11 10 true := ⟨fl_X11_84, by decide, by decide, rfl⟩
theorem ff_X11_88 : zFL RX11 88 11 11 true := ⟨fl_X11_88, by decide, by decide, rfl⟩
theorem ff_X12_124 : zFL RX12 124 12 1 false := ⟨fl_X12_124, by decide, by decide, rfl⟩
theorem ff_X12_9 : zFL RX12 9 12 2 true := ⟨fl_X12_9, by decide, by decide, rfl⟩
theorem ff_X12_15 : zFL RX12 15 12 3 true := ⟨fl_X12_15, by decide, by decide, rfl⟩
theorem ff_X12_18 : zFL RX12 18 12 4 true := ⟨fl_X12_18, by decide, by decide, rfl⟩
theorem ff_X12_21 : zFL RX12 21 12 5 true := ⟨fl_X12_21, by decide, by decide, rfl⟩
theorem ff_X12_24 : zFL RX12 24 12 6 true := ⟨fl_X12_24, by decide, by decide, rfl⟩
theorem ff_X12_27 : zFL RX12 27 12 7 true := ⟨fl_X12_27, by decide, by decide, rfl⟩
theorem ff_X12_131 : zFL RX12 131 12 8 false := ⟨fl_X12_131, by decide, by decide, rfl⟩
theorem ff_X12_30 : zFL RX12 30 12 9 true := ⟨fl_X12_30, by decide, by decide, rfl⟩
theorem ff_X12_33 : zFL RX12 33 12 10 true := ⟨fl_X12_33, by decide, by decide, rfl⟩
theorem ff_X12_157 : zFL RX12 157 12 11 false := ⟨fl_X12_157, by decide, by decide, rfl⟩
theorem ff_X12_36 : zFL RX12 36 12 12 true := ⟨fl_X12_36, by decide, by decide, rfl⟩
theorem ff_X12_39 : zFL RX12 39 12 13 true := ⟨fl_X12_39, by decide, by decide, rfl⟩
theorem ff_X12_171 : zFL RX12 171 12 14 false := ⟨fl_X12_171, by decide, by decide, rfl⟩
theorem ff_X12_168 : zFL RX12 168 12 15 false := ⟨fl_X12_168, by decide, by decide, rfl⟩
theorem ff_X12_42 : zFL RX12 42 12 16 true := ⟨fl_X12_42, by decide, by decide, rfl⟩
theorem ff_X12_45 : zFL RX12 45 12 17 true := ⟨fl_X12_45, by decide, by decide, rfl⟩
theorem ff_X12_48 : zFL RX12 48 12 18 true := ⟨fl_X12_48, by decide, by decide, rfl⟩
theorem ff_X12_51 : zFL RX12 51 12 19 true := ⟨fl_X12_51, by decide, by decide, rfl⟩
theorem ff_X12_54 : zFL RX12 54 12 20 true := ⟨fl_X12_54, by decide, by decide, rfl⟩
theorem ff_X12_188 : zFL RX12 188 12 21 false := ⟨fl_X12_188, by decide, by decide, rfl⟩
theorem ff_X12_191 : zFL RX12 191 12 22 false := ⟨fl_X12_191, by decide, by decide, rfl⟩
theorem ff_X12_194 : zFL RX12 194 12 23 false := ⟨fl_X12_194, by decide, by decide, rfl⟩
theorem ff_X12_200 : zFL RX12 200 12 24 false := ⟨fl_X12_200, by decide, by decide, rfl⟩
theorem ff_X12_197 : zFL RX12 197 12 25 false := ⟨fl_X12_197, by decide, by decide, rfl⟩
theorem ff_X12_58 : zFL RX12 58 12 26 true := ⟨fl_X12_58, by decide, by decide, rfl⟩
theorem ff_X12_61 : zFL RX12 61 12 27 true := ⟨fl_X12_61, by decide, by decide, rfl⟩
theorem ff_X12_64 : zFL RX12 64 12 28 true := ⟨fl_X12_64, by decide, by decide, rfl⟩
theorem ff_X12_67 : zFL RX12 67 12 29 true := ⟨fl_X12_67, by decide, by decide, rfl⟩
theorem ff_X12_71 : zFL RX12 71 12 30 true := ⟨fl_X12_71, by decide, by decide, rfl⟩
theorem ff_X12_74 : zFL RX12 74 12 31 true := ⟨fl_X12_74, by decide, by decide, rfl⟩
theorem ff_X12_77 : zFL RX12 77 12 32 true := ⟨fl_X12_77, by decide, by decide, rfl⟩
theorem ff_X12_254 : zFL RX12 254 12 33 false := ⟨fl_X12_254, by decide, by decide, rfl⟩
theorem ff_X12_270 : zFL RX12 270 12 34 false := ⟨fl_X12_270, by decide, by decide, rfl⟩
theorem ff_X12_80 : zFL RX12 80 12 35 true := ⟨fl_X12_80, by decide, by decide, rfl⟩
theorem ff_X12_83 : zFL RX12 83 12 36 true := ⟨fl_X12_83, by decide, by decide, rfl⟩
theorem ff_X12_86 : zFL RX12 86 12 37 true := ⟨fl_X12_86, by decide, by decide, rfl⟩
theorem ff_X12_89 : zFL RX12 89 12 38 true := ⟨fl_X12_89, by decide, by decide, rfl⟩
theorem ff_X12_273 : zFL RX12 273 12 39 false := ⟨fl_X12_273, by decide, by decide, rfl⟩
theorem ff_X12_92 : zFL RX12 92 12 40 true := ⟨fl_X12_92, by decide, by decide, rfl⟩
theorem ff_X12_95 : zFL RX12 95 12 41 true := ⟨fl_X12_95, by decide, by decide, rfl⟩
theorem ff_X12_358 : zFL RX12 358 12 42 false := ⟨fl_X12_358, by decide, by decide, rfl⟩
theorem ff_X12_361 : zFL RX12 361 12 43 false := ⟨fl_X12_361, by decide, by decide, rfl⟩
theorem ff_X12_364 : zFL RX12 364 12 44 false := ⟨fl_X12_364, by decide, by decide, rfl⟩
theorem ff_X12_367 : zFL RX12 367 12 45 false := ⟨fl_X12_367, by decide, by decide, rfl⟩
theorem ff_X12_370 : zFL RX12 370 12 46 false := ⟨fl_X12_370, by decide, by decide, rfl⟩
theorem ff_X12_373 : zFL RX12 373 12 47 false := ⟨fl_X12_373, by decide, by decide, rfl⟩
theorem ff_X12_98 : zFL RX12 98 12 48 true := ⟨fl_X12_98, by decide, by decide, rfl⟩
theorem ff_X12_376 : zFL RX12 376 12 49 false := ⟨fl_X12_376, by decide, by decide, rfl⟩
theorem ff_X12_101 : zFL RX12 101 12 50 true := ⟨fl_X12_101, by decide, by decide, rfl⟩
theorem ff_X12_379 : zFL RX12 379 12 51 false := ⟨fl_X12_379, by decide, by decide, rfl⟩
theorem ff_X12_104 : zFL RX12 104 12 52 true := ⟨fl_X12_104, by decide, by decide, rfl⟩
theorem ff_X12_107 : zFL RX12 107 12 53 true := ⟨fl_X12_107, by decide, by decide, rfl⟩
theorem ff_X12_110 : zFL RX12 110 12 54 true := ⟨fl_X12_110, by decide, by decide, rfl⟩
theorem ff_X12_113 : zFL RX12 113 12 55 true := ⟨fl_X12_113, by decide, by decide, rfl⟩
theorem ff_X12_117 : zFL RX12 117 12 56 true := ⟨fl_X12_117, by decide, by decide, rfl⟩
theorem ic_m1 : Int32.ofInt (-1) = -1 := by decide
theorem ic_0 : Int32.ofInt (0) = 0 := by decide
theorem ic_1 : Int32.ofInt (1) = 1 := by decide
theorem ic_2 : Int32.ofInt (2) = 2 := by decide
theorem ic_3 : Int32.ofInt (3) = 3 := by decide
theorem ic_4 : Int32.ofInt (4) = 4 := by decide
theorem ic_5 : Int32.ofInt (5) = 5 := by decide
theorem bc_m100 : (Int8.ofInt (-100)).toInt32 = -100 := by decide
theorem bc_m14 : (Int8.ofInt (-14)).toInt32 = -14 := by decide
theorem bc_m13 : (Int8.ofInt (-13)).toInt32 = -13 := by decide
theorem bc_m12 : (Int8.ofInt (-12)).toInt32 = -12 := by decide
theorem bc_m11 : (Int8.ofInt (-11)).toInt32 = -11 := by decide
theorem bc_m7 : (Int8.ofInt (-7)).toInt32 = -7 := by decide
theorem bc_m5 : (Int8.ofInt (-5)).toInt32 = -5 := by decide
theorem bc_m3 : (Int8.ofInt (-3)).toInt32 = -3 := by decide
theorem bc_m2 : (Int8.ofInt (-2)).toInt32 = -2 := by decide
theorem bc_6 : (Int8.ofInt (6)).toInt32 = 6 := by decide
theorem bc_7 : (Int8.ofInt (7)).toInt32 = 7 := by decide
theorem bc_8 : (Int8.ofInt (8)).toInt32 = 8 := by decide
theorem bc_9 : (Int8.ofInt (9)).toInt32 = 9 := by decide
theorem bc_10 : (Int8.ofInt (10)).toInt32 = 10 := by decide
theorem bc_11 : (Int8.ofInt (11)).toInt32 = 11 := by decide
theorem bc_12 : (Int8.ofInt (12)).toInt32 = 12 := by decide
theorem bc_15 : (Int8.ofInt (15)).toInt32 = 15 := by decide
theorem bc_16 : (Int8.ofInt (16)).toInt32 = 16 := by decide
theorem bc_20 : (Int8.ofInt (20)).toInt32 = 20 := by decide
theorem bc_23 : (Int8.ofInt (23)).toInt32 = 23 := by decide
theorem bc_24 : (Int8.ofInt (24)).toInt32 = 24 := by decide
theorem bc_30 : (Int8.ofInt (30)).toInt32 = 30 := by decide
theorem bc_32 : (Int8.ofInt (32)).toInt32 = 32 := by decide
theorem bc_33 : (Int8.ofInt (33)).toInt32 = 33 := by decide
theorem bc_37 : (Int8.ofInt (37)).toInt32 = 37 := by decide
theorem bc_38 : (Int8.ofInt (38)).toInt32 = 38 := by decide
theorem bc_39 : (Int8.ofInt (39)).toInt32 = 39 := by decide
theorem bc_40 : (Int8.ofInt (40)).toInt32 = 40 := by decide
theorem bc_41 : (Int8.ofInt (41)).toInt32 = 41 := by decide
theorem bc_42 : (Int8.ofInt (42)).toInt32 = 42 := by decide
theorem bc_43 : (Int8.ofInt (43)).toInt32 = 43 := by decide
theorem bc_45 : (Int8.ofInt (45)).toInt32 = 45 := by decide
theorem bc_47 : (Int8.ofInt (47)).toInt32 = 47 := by decide
theorem bc_48 : (Int8.ofInt (48)).toInt32 = 48 := by decide
theorem bc_50 : (Int8.ofInt (50)).toInt32 = 50 := by decide
theorem bc_57 : (Int8.ofInt (57)).toInt32 = 57 := by decide
theorem bc_59 : (Int8.ofInt (59)).toInt32 = 59 := by decide
theorem bc_60 : (Int8.ofInt (60)).toInt32 = 60 := by decide
theorem bc_61 : (Int8.ofInt (61)).toInt32 = 61 := by decide
theorem bc_62 : (Int8.ofInt (62)).toInt32 = 62 := by decide
theorem bc_63 : (Int8.ofInt (63)).toInt32 = 63 := by decide
theorem bc_70 : (Int8.ofInt (70)).toInt32 = 70 := by decide
theorem bc_80 : (Int8.ofInt (80)).toInt32 = 80 := by decide
theorem bc_81 : (Int8.ofInt (81)).toInt32 = 81 := by decide
theorem bc_100 : (Int8.ofInt (100)).toInt32 = 100 := by decide
theorem bc_120 : (Int8.ofInt (120)).toInt32 = 120 := by decide
theorem bc_122 : (Int8.ofInt (122)).toInt32 = 122 := by decide
theorem bc_124 : (Int8.ofInt (124)).toInt32 = 124 := by decide
theorem sc_128 : (Int16.ofInt (128)).toInt32 = 128 := by decide
theorem sc_130 : (Int16.ofInt (130)).toInt32 = 130 := by decide
theorem sc_255 : (Int16.ofInt (255)).toInt32 = 255 := by decide
theorem sc_260 : (Int16.ofInt (260)).toInt32 = 260 := by decide
theorem sc_360 : (Int16.ofInt (360)).toInt32 = 360 := by decide
theorem sc_480 : (Int16.ofInt (480)).toInt32 = 480 := by decide
theorem sc_999 : (Int16.ofInt (999)).toInt32 = 999 := by decide
theorem sc_1023 : (Int16.ofInt (1023)).toInt32 = 1023 := by decide
theorem sc_1999 : (Int16.ofInt (1999)).toInt32 = 1999 := by decide
theorem sc_12345 : (Int16.ofInt (12345)).toInt32 = 12345 := by decide
theorem zns100 : zNs 100 100 100 100 := ⟨Nat.le_refl _, Nat.le_refl _, Nat.le_refl _⟩
/-- what holds of a truth value as an int -/
def bi (c : Prop) [Decidable c] : Int32 := if c then 1 else 0
theorem zn_bi {c : Prop} [Decidable c] : narrow .boolean (.int (bi c)) = .int (bi c) := by
  unfold bi; split <;> rfl
theorem zfit_bi {c : Prop} [Decidable c] : fits .boolean (.int (bi c)) = true := by
  unfold bi; split <;> rfl
theorem bi_0 {c : Prop} [Decidable c] : bi c = 0 ↔ ¬ c := by
  unfold bi; split <;> simp_all
theorem bi_n0 {c : Prop} [Decidable c] : ¬ bi c = 0 ↔ c := by
  unfold bi; split <;> simp_all
theorem bi_1 {c : Prop} [Decidable c] : bi c = 1 ↔ c := by
  unfold bi; split <;> simp_all
theorem bi_t {c : Prop} [Decidable c] (h : c) : bi c = 1 := if_pos h
theorem bi_f {c : Prop} [Decidable c] (h : ¬ c) : bi c = 0 := if_neg h
theorem bi_iff {c e : Prop} [Decidable c] [Decidable e] (h : c ↔ e) : bi c = bi e := by
  unfold bi; by_cases h1 : c
  · rw [if_pos h1, if_pos (h.mp h1)]
  · rw [if_neg h1, if_neg (fun q => h1 (h.mpr q))]
theorem zPi {x y : Int32} {w : zW} (h : x = y) : zP (.int y) w (some (.int x)) w := ⟨by rw [h], rfl⟩
theorem zPl {x y : Int64} {w : zW} (h : x = y) : zP (.long y) w (some (.long x)) w := ⟨by rw [h], rfl⟩
theorem zPr {x y : Value} {w : zW} (h : x = y) : zP y w (some x) w := ⟨by rw [h], rfl⟩
/-- a method that leaves the world as it is, behind the constructors -/
abbrev zU (I : Nat → Nat → Int32) (L : Nat → Nat → Int64) (fs : Nat × Nat × Option Nat) : zW := (I, L, zR fs, 100)
abbrev zPure (g : zG) (l : Launch) (d : Nat) (M : zM) (vals : List Value) (I : Nat → Nat → Int32) (L : Nat → Nat → Int64) (fs : Nat × Nat × Option Nat) (x : Value) : Prop := zSp g l d 100 M vals (zU I L fs) (zP x (zU I L fs))
abbrev zA (g : zG) (l : Launch) (d : Nat) (M : zM) (I : Nat → Nat → Int32) (L : Nat → Nat → Int64) (fs : Nat × Nat × Option Nat) (pc : Nat) (lv : List (Nat × Value)) (Q : Option Value → zW → Prop) : Prop := zAW g l d 100 100 M (zU I L fs) pc lv [] Q
/-- a method without an answer; one with an int -/
def zV (P : zW → Prop) : Option Value → zW → Prop := fun v w => v = none ∧ P w
def zX (P : Int32 → zW → Prop) : Option Value → zW → Prop := fun v w => ∃ x : Int32, v = some (.int x) ∧ P x w
section ZG
variable {g : zG} {l : Launch} {d n0 n1 : Nat} {M : zM} {w : zW} {I : Nat → Nat → Int32} {L : Nat → Nat → Int64} {R : Nat → Nat → Option Nat} {n pc q : Nat} {lv : List (Nat × Value)} {st : List Value} {Q : Option Value → zW → Prop}
theorem zCallVV {M' : zM} {idx d' kd len a ar n2 : Nat} {As rest : List Value} {P : zW → Prop} (hd : decode (zmc M) pc = .ok (.invokevirtual idx, 3)) (hl0 : Cond.methodLink (zmo M) idx (zmy M') ∈ zWT) (hk : zMk M' ar) (hi : Cond.instanceMethod (zmy M') ∈ zWT) (hsl : Cond.selects (zmy M').cls (zmy M') (zmy M') ∈ zWT)
    (hS : zSp g l d' n2 M' (.ref a :: As) (I, L, R, n) (zV P)) (hst : st = As.reverse ++ .ref a :: rest) (har : As.length = ar) (hs : zsh a = (kd, len)) (hkd : kd < 13) (hcl : zcR kd = zmo M') (ha : a < n) (hcat : (rest.map fun v => v.category).sum ≤ 8) (hml : zmn M' ≤ 45) (hd' : d' + 1 ≤ d) (hn : zNs n0 n n2 n1) (hq : q = pc + 3)
    (kk : ∀ w', P w' → zAW g l d n0 n1 M w' q lv rest Q) : zAW g l d n0 n1 M (I, L, R, n) pc lv st Q :=
  zCallV hd hl0 hk hi hsl hS hst har hs hkd hcl ha hcat hml hd' hn hq (fun v w' _ h => by obtain ⟨rfl, h⟩ := h; exact kk w' h)
theorem zCallVX {M' : zM} {idx d' kd len a ar n2 : Nat} {As rest : List Value} {P : Int32 → zW → Prop} (hd : decode (zmc M) pc = .ok (.invokevirtual idx, 3)) (hl0 : Cond.methodLink (zmo M) idx (zmy M') ∈ zWT) (hk : zMk M' ar) (hi : Cond.instanceMethod (zmy M') ∈ zWT) (hsl : Cond.selects (zmy M').cls (zmy M') (zmy M') ∈ zWT)
    (hS : zSp g l d' n2 M' (.ref a :: As) (I, L, R, n) (zX P)) (hst : st = As.reverse ++ .ref a :: rest) (har : As.length = ar) (hs : zsh a = (kd, len)) (hkd : kd < 13) (hcl : zcR kd = zmo M') (ha : a < n) (hcat : (rest.map fun v => v.category).sum ≤ 8) (hml : zmn M' ≤ 45) (hd' : d' + 1 ≤ d) (hn : zNs n0 n n2 n1) (hq : q = pc + 3)
    (kk : ∀ x w', P x w' → zAW g l d n0 n1 M w' q lv (.int x :: rest) Q) : zAW g l d n0 n1 M (I, L, R, n) pc lv st Q :=
  zCallV hd hl0 hk hi hsl hS hst har hs hkd hcl ha hcat hml hd' hn hq (fun v w' _ h => by obtain ⟨x, rfl, h⟩ := h; exact kk x w' h)
end ZG
