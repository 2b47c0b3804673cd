section
-- ===== PART A: goes FIRST, ahead of the names: the tables' words, and 'selects' of the private methods out of them =====
/-- a private method of a class that the tables say can be made, by its rows of tables_1 -/
def lw_okq (q : MethodName × Nat) : Prop := (q.1.cls ≠ "java/lang/invoke/MethodHandle" ∧ q.1.cls ≠ "java/lang/invoke/VarHandle") ∧ Cond.instantiable q.1.cls q.2 ∈ tables_1 ∧ Cond.privateMethod q.1 ∈ tables_1 ∧ Cond.instanceMethod q.1 ∈ tables_1
theorem lw_p0 : lw_okq (⟨"StarfishWatch", "shelfAt", "(I)LStarfishWatch$Shelf;"⟩, 12) := ⟨⟨by decide +kernel, by decide +kernel⟩, List.mem_of_getElem? (i := 18) (by decide +kernel), List.mem_of_getElem? (i := 400) (by decide +kernel), List.mem_of_getElem? (i := 401) (by decide +kernel)⟩
theorem lw_p1 : lw_okq (⟨"StarfishWatch", "starCame", "(LStarfishWatch$Shelf;II)Z"⟩, 12) := ⟨⟨by decide +kernel, by decide +kernel⟩, List.mem_of_getElem? (i := 18) (by decide +kernel), List.mem_of_getElem? (i := 412) (by decide +kernel), List.mem_of_getElem? (i := 413) (by decide +kernel)⟩
theorem lw_p2 : lw_okq (⟨"StarfishWatch$Changes", "forgetOldest", "()V"⟩, 6) := ⟨⟨by decide +kernel, by decide +kernel⟩, List.mem_of_getElem? (i := 203) (by decide +kernel), List.mem_of_getElem? (i := 461) (by decide +kernel), List.mem_of_getElem? (i := 462) (by decide +kernel)⟩
theorem lw_p3 : lw_okq (⟨"StarfishWatch$Tape", "readLine", "()Z"⟩, 4) := ⟨⟨by decide +kernel, by decide +kernel⟩, List.mem_of_getElem? (i := 183) (by decide +kernel), List.mem_of_getElem? (i := 493) (by decide +kernel), List.mem_of_getElem? (i := 494) (by decide +kernel)⟩
theorem lw_p4 : lw_okq (⟨"StarfishWatch$Tape", "readJoined", "(II)Z"⟩, 4) := ⟨⟨by decide +kernel, by decide +kernel⟩, List.mem_of_getElem? (i := 183) (by decide +kernel), List.mem_of_getElem? (i := 497) (by decide +kernel), List.mem_of_getElem? (i := 498) (by decide +kernel)⟩
theorem lw_p5 : lw_okq (⟨"StarfishWatch$Tape", "readPart", "(II)Z"⟩, 4) := ⟨⟨by decide +kernel, by decide +kernel⟩, List.mem_of_getElem? (i := 183) (by decide +kernel), List.mem_of_getElem? (i := 501) (by decide +kernel), List.mem_of_getElem? (i := 502) (by decide +kernel)⟩
theorem lw_p6 : lw_okq (⟨"StarfishWatch$Tape", "readOperand", "(I)Z"⟩, 4) := ⟨⟨by decide +kernel, by decide +kernel⟩, List.mem_of_getElem? (i := 183) (by decide +kernel), List.mem_of_getElem? (i := 505) (by decide +kernel), List.mem_of_getElem? (i := 506) (by decide +kernel)⟩
theorem lw_p7 : lw_okq (⟨"StarfishWatch$Tape", "here", "()I"⟩, 4) := ⟨⟨by decide +kernel, by decide +kernel⟩, List.mem_of_getElem? (i := 183) (by decide +kernel), List.mem_of_getElem? (i := 509) (by decide +kernel), List.mem_of_getElem? (i := 510) (by decide +kernel)⟩
theorem lw_p8 : lw_okq (⟨"StarfishWatch$Tape", "readBracketed", "(I)Z"⟩, 4) := ⟨⟨by decide +kernel, by decide +kernel⟩, List.mem_of_getElem? (i := 183) (by decide +kernel), List.mem_of_getElem? (i := 513) (by decide +kernel), List.mem_of_getElem? (i := 514) (by decide +kernel)⟩
theorem lw_p9 : lw_okq (⟨"StarfishWatch$Tape", "readTurned", "(II)Z"⟩, 4) := ⟨⟨by decide +kernel, by decide +kernel⟩, List.mem_of_getElem? (i := 183) (by decide +kernel), List.mem_of_getElem? (i := 517) (by decide +kernel), List.mem_of_getElem? (i := 518) (by decide +kernel)⟩
theorem lw_p10 : lw_okq (⟨"StarfishWatch$Tape", "readNumber", "()V"⟩, 4) := ⟨⟨by decide +kernel, by decide +kernel⟩, List.mem_of_getElem? (i := 183) (by decide +kernel), List.mem_of_getElem? (i := 528) (by decide +kernel), List.mem_of_getElem? (i := 529) (by decide +kernel)⟩
theorem lw_p11 : lw_okq (⟨"StarfishWatch", "oddsNow", "(II)I"⟩, 12) := ⟨⟨by decide +kernel, by decide +kernel⟩, List.mem_of_getElem? (i := 18) (by decide +kernel), List.mem_of_getElem? (i := 554) (by decide +kernel), List.mem_of_getElem? (i := 555) (by decide +kernel)⟩
theorem lw_p12 : lw_okq (⟨"StarfishWatch$Law", "withoutText", "()I"⟩, 5) := ⟨⟨by decide +kernel, by decide +kernel⟩, List.mem_of_getElem? (i := 304) (by decide +kernel), List.mem_of_getElem? (i := 563) (by decide +kernel), List.mem_of_getElem? (i := 564) (by decide +kernel)⟩
theorem lw_p13 : lw_okq (⟨"StarfishWatch$Law", "worth", "()I"⟩, 5) := ⟨⟨by decide +kernel, by decide +kernel⟩, List.mem_of_getElem? (i := 304) (by decide +kernel), List.mem_of_getElem? (i := 567) (by decide +kernel), List.mem_of_getElem? (i := 568) (by decide +kernel)⟩
theorem lw_p14 : lw_okq (⟨"StarfishWatch$Law", "named", "(I)I"⟩, 5) := ⟨⟨by decide +kernel, by decide +kernel⟩, List.mem_of_getElem? (i := 304) (by decide +kernel), List.mem_of_getElem? (i := 571) (by decide +kernel), List.mem_of_getElem? (i := 572) (by decide +kernel)⟩
theorem lw_p15 : lw_okq (⟨"StarfishWatch", "minutesToDeal", "(I)I"⟩, 12) := ⟨⟨by decide +kernel, by decide +kernel⟩, List.mem_of_getElem? (i := 18) (by decide +kernel), List.mem_of_getElem? (i := 646) (by decide +kernel), List.mem_of_getElem? (i := 647) (by decide +kernel)⟩
def lw_privs_1 : List (MethodName × Nat) := [(⟨"StarfishWatch", "shelfAt", "(I)LStarfishWatch$Shelf;"⟩, 12), (⟨"StarfishWatch", "starCame", "(LStarfishWatch$Shelf;II)Z"⟩, 12), (⟨"StarfishWatch$Changes", "forgetOldest", "()V"⟩, 6), (⟨"StarfishWatch$Tape", "readLine", "()Z"⟩, 4), (⟨"StarfishWatch$Tape", "readJoined", "(II)Z"⟩, 4), (⟨"StarfishWatch$Tape", "readPart", "(II)Z"⟩, 4), (⟨"StarfishWatch$Tape", "readOperand", "(I)Z"⟩, 4), (⟨"StarfishWatch$Tape", "here", "()I"⟩, 4), (⟨"StarfishWatch$Tape", "readBracketed", "(I)Z"⟩, 4), (⟨"StarfishWatch$Tape", "readTurned", "(II)Z"⟩, 4), (⟨"StarfishWatch$Tape", "readNumber", "()V"⟩, 4), (⟨"StarfishWatch", "oddsNow", "(II)I"⟩, 12), (⟨"StarfishWatch$Law", "withoutText", "()I"⟩, 5), (⟨"StarfishWatch$Law", "worth", "()I"⟩, 5), (⟨"StarfishWatch$Law", "named", "(I)I"⟩, 5), (⟨"StarfishWatch", "minutesToDeal", "(I)I"⟩, 12)]
theorem lw_r1 : ∀ q ∈ lw_privs_1, lw_okq q := List.forall_mem_cons.mpr ⟨lw_p0, List.forall_mem_cons.mpr ⟨lw_p1, List.forall_mem_cons.mpr ⟨lw_p2, List.forall_mem_cons.mpr ⟨lw_p3, List.forall_mem_cons.mpr ⟨lw_p4, List.forall_mem_cons.mpr ⟨lw_p5, List.forall_mem_cons.mpr ⟨lw_p6, List.forall_mem_cons.mpr ⟨lw_p7, List.forall_mem_cons.mpr ⟨lw_p8, List.forall_mem_cons.mpr ⟨lw_p9, List.forall_mem_cons.mpr ⟨lw_p10, List.forall_mem_cons.mpr ⟨lw_p11, List.forall_mem_cons.mpr ⟨lw_p12, List.forall_mem_cons.mpr ⟨lw_p13, List.forall_mem_cons.mpr ⟨lw_p14, List.forall_mem_cons.mpr ⟨lw_p15, fun _ h => absurd h List.not_mem_nil⟩⟩⟩⟩⟩⟩⟩⟩⟩⟩⟩⟩⟩⟩⟩⟩
theorem lw_p16 : lw_okq (⟨"StarfishWatch", "throwsWithin", "(II)I"⟩, 12) := ⟨⟨by decide +kernel, by decide +kernel⟩, List.mem_of_getElem? (i := 18) (by decide +kernel), List.mem_of_getElem? (i := 650) (by decide +kernel), List.mem_of_getElem? (i := 651) (by decide +kernel)⟩
theorem lw_p17 : lw_okq (⟨"StarfishWatch", "throwerOfDealt", "(II)I"⟩, 12) := ⟨⟨by decide +kernel, by decide +kernel⟩, List.mem_of_getElem? (i := 18) (by decide +kernel), List.mem_of_getElem? (i := 654) (by decide +kernel), List.mem_of_getElem? (i := 655) (by decide +kernel)⟩
theorem lw_p18 : lw_okq (⟨"StarfishWatch$Finder", "spread", "()V"⟩, 4) := ⟨⟨by decide +kernel, by decide +kernel⟩, List.mem_of_getElem? (i := 129) (by decide +kernel), List.mem_of_getElem? (i := 696) (by decide +kernel), List.mem_of_getElem? (i := 697) (by decide +kernel)⟩
theorem lw_p19 : lw_okq (⟨"StarfishWatch$Finder", "sumOf", "(II)I"⟩, 4) := ⟨⟨by decide +kernel, by decide +kernel⟩, List.mem_of_getElem? (i := 129) (by decide +kernel), List.mem_of_getElem? (i := 706) (by decide +kernel), List.mem_of_getElem? (i := 707) (by decide +kernel)⟩
theorem lw_p20 : lw_okq (⟨"StarfishWatch$Fleet", "serves", "(II)Z"⟩, 9) := ⟨⟨by decide +kernel, by decide +kernel⟩, List.mem_of_getElem? (i := 64) (by decide +kernel), List.mem_of_getElem? (i := 729) (by decide +kernel), List.mem_of_getElem? (i := 730) (by decide +kernel)⟩
theorem lw_p21 : lw_okq (⟨"StarfishWatch$Fleet", "allIsSo", "(I)Z"⟩, 9) := ⟨⟨by decide +kernel, by decide +kernel⟩, List.mem_of_getElem? (i := 64) (by decide +kernel), List.mem_of_getElem? (i := 748) (by decide +kernel), List.mem_of_getElem? (i := 749) (by decide +kernel)⟩
theorem lw_p22 : lw_okq (⟨"StarfishWatch$Chart", "fits", "(II)Z"⟩, 6) := ⟨⟨by decide +kernel, by decide +kernel⟩, List.mem_of_getElem? (i := 102) (by decide +kernel), List.mem_of_getElem? (i := 767) (by decide +kernel), List.mem_of_getElem? (i := 768) (by decide +kernel)⟩
theorem lw_p23 : lw_okq (⟨"StarfishWatch$Fleet", "fewestBehind", "(IIII)I"⟩, 9) := ⟨⟨by decide +kernel, by decide +kernel⟩, List.mem_of_getElem? (i := 64) (by decide +kernel), List.mem_of_getElem? (i := 781) (by decide +kernel), List.mem_of_getElem? (i := 782) (by decide +kernel)⟩
theorem lw_p24 : lw_okq (⟨"StarfishWatch$Fleet", "mostBehind", "(IIII)I"⟩, 9) := ⟨⟨by decide +kernel, by decide +kernel⟩, List.mem_of_getElem? (i := 64) (by decide +kernel), List.mem_of_getElem? (i := 785) (by decide +kernel), List.mem_of_getElem? (i := 786) (by decide +kernel)⟩
theorem lw_p25 : lw_okq (⟨"StarfishWatch$Changes", "lay", "(LStarfishWatch$Sky;II)V"⟩, 6) := ⟨⟨by decide +kernel, by decide +kernel⟩, List.mem_of_getElem? (i := 203) (by decide +kernel), List.mem_of_getElem? (i := 863) (by decide +kernel), List.mem_of_getElem? (i := 864) (by decide +kernel)⟩
theorem lw_p26 : lw_okq (⟨"StarfishWatch$Arms", "done", "(IIII)I"⟩, 4) := ⟨⟨by decide +kernel, by decide +kernel⟩, List.mem_of_getElem? (i := 258) (by decide +kernel), List.mem_of_getElem? (i := 897) (by decide +kernel), List.mem_of_getElem? (i := 898) (by decide +kernel)⟩
theorem lw_p27 : lw_okq (⟨"StarfishWatch$Arms", "doneAs", "(IIIII)I"⟩, 4) := ⟨⟨by decide +kernel, by decide +kernel⟩, List.mem_of_getElem? (i := 258) (by decide +kernel), List.mem_of_getElem? (i := 901) (by decide +kernel), List.mem_of_getElem? (i := 902) (by decide +kernel)⟩
theorem lw_p28 : lw_okq (⟨"StarfishWatch$Arms", "begin", "(I)V"⟩, 4) := ⟨⟨by decide +kernel, by decide +kernel⟩, List.mem_of_getElem? (i := 258) (by decide +kernel), List.mem_of_getElem? (i := 915) (by decide +kernel), List.mem_of_getElem? (i := 916) (by decide +kernel)⟩
theorem lw_p29 : lw_okq (⟨"StarfishWatch$Arms", "doneAbove", "(IIIII)I"⟩, 4) := ⟨⟨by decide +kernel, by decide +kernel⟩, List.mem_of_getElem? (i := 258) (by decide +kernel), List.mem_of_getElem? (i := 919) (by decide +kernel), List.mem_of_getElem? (i := 920) (by decide +kernel)⟩
theorem lw_p30 : lw_okq (⟨"StarfishWatch$Shelf", "lowest", "(J)J"⟩, 4) := ⟨⟨by decide +kernel, by decide +kernel⟩, List.mem_of_getElem? (i := 281) (by decide +kernel), List.mem_of_getElem? (i := 966) (by decide +kernel), List.mem_of_getElem? (i := 967) (by decide +kernel)⟩
theorem lw_p31 : lw_okq (⟨"StarfishWatchModel", "starIn", "(I)I"⟩, 57) := ⟨⟨by decide +kernel, by decide +kernel⟩, List.mem_of_getElem? (i := 999) (by decide +kernel), List.mem_of_getElem? (i := 1188) (by decide +kernel), List.mem_of_getElem? (i := 1189) (by decide +kernel)⟩
def lw_privs_2 : List (MethodName × Nat) := [(⟨"StarfishWatch", "throwsWithin", "(II)I"⟩, 12), (⟨"StarfishWatch", "throwerOfDealt", "(II)I"⟩, 12), (⟨"StarfishWatch$Finder", "spread", "()V"⟩, 4), (⟨"StarfishWatch$Finder", "sumOf", "(II)I"⟩, 4), (⟨"StarfishWatch$Fleet", "serves", "(II)Z"⟩, 9), (⟨"StarfishWatch$Fleet", "allIsSo", "(I)Z"⟩, 9), (⟨"StarfishWatch$Chart", "fits", "(II)Z"⟩, 6), (⟨"StarfishWatch$Fleet", "fewestBehind", "(IIII)I"⟩, 9), (⟨"StarfishWatch$Fleet", "mostBehind", "(IIII)I"⟩, 9), (⟨"StarfishWatch$Changes", "lay", "(LStarfishWatch$Sky;II)V"⟩, 6), (⟨"StarfishWatch$Arms", "done", "(IIII)I"⟩, 4), (⟨"StarfishWatch$Arms", "doneAs", "(IIIII)I"⟩, 4), (⟨"StarfishWatch$Arms", "begin", "(I)V"⟩, 4), (⟨"StarfishWatch$Arms", "doneAbove", "(IIIII)I"⟩, 4), (⟨"StarfishWatch$Shelf", "lowest", "(J)J"⟩, 4), (⟨"StarfishWatchModel", "starIn", "(I)I"⟩, 57)]
theorem lw_r2 : ∀ q ∈ lw_privs_2, lw_okq q := List.forall_mem_cons.mpr ⟨lw_p16, List.forall_mem_cons.mpr ⟨lw_p17, List.forall_mem_cons.mpr ⟨lw_p18, List.forall_mem_cons.mpr ⟨lw_p19, List.forall_mem_cons.mpr ⟨lw_p20, List.forall_mem_cons.mpr ⟨lw_p21, List.forall_mem_cons.mpr ⟨lw_p22, List.forall_mem_cons.mpr ⟨lw_p23, List.forall_mem_cons.mpr ⟨lw_p24, List.forall_mem_cons.mpr ⟨lw_p25, List.forall_mem_cons.mpr ⟨lw_p26, List.forall_mem_cons.mpr ⟨lw_p27, List.forall_mem_cons.mpr ⟨lw_p28, List.forall_mem_cons.mpr ⟨lw_p29, List.forall_mem_cons.mpr ⟨lw_p30, List.forall_mem_cons.mpr ⟨lw_p31, fun _ h => absurd h List.not_mem_nil⟩⟩⟩⟩⟩⟩⟩⟩⟩⟩⟩⟩⟩⟩⟩⟩
theorem lw_p32 : lw_okq (⟨"StarfishWatchModel", "addStar", "(III)I"⟩, 57) := ⟨⟨by decide +kernel, by decide +kernel⟩, List.mem_of_getElem? (i := 999) (by decide +kernel), List.mem_of_getElem? (i := 1192) (by decide +kernel), List.mem_of_getElem? (i := 1193) (by decide +kernel)⟩
theorem lw_p33 : lw_okq (⟨"StarfishWatchModel", "lays", "(III)V"⟩, 57) := ⟨⟨by decide +kernel, by decide +kernel⟩, List.mem_of_getElem? (i := 999) (by decide +kernel), List.mem_of_getElem? (i := 1216) (by decide +kernel), List.mem_of_getElem? (i := 1217) (by decide +kernel)⟩
theorem lw_p34 : lw_okq (⟨"StarfishWatchModel", "isFree", "(II)Z"⟩, 57) := ⟨⟨by decide +kernel, by decide +kernel⟩, List.mem_of_getElem? (i := 999) (by decide +kernel), List.mem_of_getElem? (i := 1220) (by decide +kernel), List.mem_of_getElem? (i := 1221) (by decide +kernel)⟩
theorem lw_p35 : lw_okq (⟨"StarfishWatchModel", "isPlace", "(II)Z"⟩, 57) := ⟨⟨by decide +kernel, by decide +kernel⟩, List.mem_of_getElem? (i := 999) (by decide +kernel), List.mem_of_getElem? (i := 1232) (by decide +kernel), List.mem_of_getElem? (i := 1233) (by decide +kernel)⟩
theorem lw_p36 : lw_okq (⟨"StarfishWatchModel", "isStar", "(I)Z"⟩, 57) := ⟨⟨by decide +kernel, by decide +kernel⟩, List.mem_of_getElem? (i := 999) (by decide +kernel), List.mem_of_getElem? (i := 1236) (by decide +kernel), List.mem_of_getElem? (i := 1237) (by decide +kernel)⟩
theorem lw_p37 : lw_okq (⟨"StarfishWatchModel", "isThrower", "(I)Z"⟩, 57) := ⟨⟨by decide +kernel, by decide +kernel⟩, List.mem_of_getElem? (i := 999) (by decide +kernel), List.mem_of_getElem? (i := 1240) (by decide +kernel), List.mem_of_getElem? (i := 1241) (by decide +kernel)⟩
theorem lw_p38 : lw_okq (⟨"StarfishWatchModel", "mayHave", "(III)Z"⟩, 57) := ⟨⟨by decide +kernel, by decide +kernel⟩, List.mem_of_getElem? (i := 999) (by decide +kernel), List.mem_of_getElem? (i := 1244) (by decide +kernel), List.mem_of_getElem? (i := 1245) (by decide +kernel)⟩
theorem lw_p39 : lw_okq (⟨"StarfishWatchModel", "changes", "(III)I"⟩, 57) := ⟨⟨by decide +kernel, by decide +kernel⟩, List.mem_of_getElem? (i := 999) (by decide +kernel), List.mem_of_getElem? (i := 1248) (by decide +kernel), List.mem_of_getElem? (i := 1249) (by decide +kernel)⟩
theorem lw_p40 : lw_okq (⟨"StarfishWatchModel", "valueAt", "(II)I"⟩, 57) := ⟨⟨by decide +kernel, by decide +kernel⟩, List.mem_of_getElem? (i := 999) (by decide +kernel), List.mem_of_getElem? (i := 1252) (by decide +kernel), List.mem_of_getElem? (i := 1253) (by decide +kernel)⟩
theorem lw_p41 : lw_okq (⟨"StarfishWatchModel", "readText", "(I)I"⟩, 57) := ⟨⟨by decide +kernel, by decide +kernel⟩, List.mem_of_getElem? (i := 999) (by decide +kernel), List.mem_of_getElem? (i := 1269) (by decide +kernel), List.mem_of_getElem? (i := 1270) (by decide +kernel)⟩
theorem lw_p42 : lw_okq (⟨"StarfishWatchModel", "line", "()V"⟩, 57) := ⟨⟨by decide +kernel, by decide +kernel⟩, List.mem_of_getElem? (i := 999) (by decide +kernel), List.mem_of_getElem? (i := 1273) (by decide +kernel), List.mem_of_getElem? (i := 1274) (by decide +kernel)⟩
theorem lw_p43 : lw_okq (⟨"StarfishWatchModel", "either", "()V"⟩, 57) := ⟨⟨by decide +kernel, by decide +kernel⟩, List.mem_of_getElem? (i := 999) (by decide +kernel), List.mem_of_getElem? (i := 1277) (by decide +kernel), List.mem_of_getElem? (i := 1278) (by decide +kernel)⟩
theorem lw_p44 : lw_okq (⟨"StarfishWatchModel", "both", "()V"⟩, 57) := ⟨⟨by decide +kernel, by decide +kernel⟩, List.mem_of_getElem? (i := 999) (by decide +kernel), List.mem_of_getElem? (i := 1281) (by decide +kernel), List.mem_of_getElem? (i := 1282) (by decide +kernel)⟩
theorem lw_p45 : lw_okq (⟨"StarfishWatchModel", "compared", "()V"⟩, 57) := ⟨⟨by decide +kernel, by decide +kernel⟩, List.mem_of_getElem? (i := 999) (by decide +kernel), List.mem_of_getElem? (i := 1285) (by decide +kernel), List.mem_of_getElem? (i := 1286) (by decide +kernel)⟩
theorem lw_p46 : lw_okq (⟨"StarfishWatchModel", "sum", "()V"⟩, 57) := ⟨⟨by decide +kernel, by decide +kernel⟩, List.mem_of_getElem? (i := 999) (by decide +kernel), List.mem_of_getElem? (i := 1289) (by decide +kernel), List.mem_of_getElem? (i := 1290) (by decide +kernel)⟩
theorem lw_p47 : lw_okq (⟨"StarfishWatchModel", "product", "()V"⟩, 57) := ⟨⟨by decide +kernel, by decide +kernel⟩, List.mem_of_getElem? (i := 999) (by decide +kernel), List.mem_of_getElem? (i := 1293) (by decide +kernel), List.mem_of_getElem? (i := 1294) (by decide +kernel)⟩
def lw_privs_3 : List (MethodName × Nat) := [(⟨"StarfishWatchModel", "addStar", "(III)I"⟩, 57), (⟨"StarfishWatchModel", "lays", "(III)V"⟩, 57), (⟨"StarfishWatchModel", "isFree", "(II)Z"⟩, 57), (⟨"StarfishWatchModel", "isPlace", "(II)Z"⟩, 57), (⟨"StarfishWatchModel", "isStar", "(I)Z"⟩, 57), (⟨"StarfishWatchModel", "isThrower", "(I)Z"⟩, 57), (⟨"StarfishWatchModel", "mayHave", "(III)Z"⟩, 57), (⟨"StarfishWatchModel", "changes", "(III)I"⟩, 57), (⟨"StarfishWatchModel", "valueAt", "(II)I"⟩, 57), (⟨"StarfishWatchModel", "readText", "(I)I"⟩, 57), (⟨"StarfishWatchModel", "line", "()V"⟩, 57), (⟨"StarfishWatchModel", "either", "()V"⟩, 57), (⟨"StarfishWatchModel", "both", "()V"⟩, 57), (⟨"StarfishWatchModel", "compared", "()V"⟩, 57), (⟨"StarfishWatchModel", "sum", "()V"⟩, 57), (⟨"StarfishWatchModel", "product", "()V"⟩, 57)]
theorem lw_r3 : ∀ q ∈ lw_privs_3, lw_okq q := List.forall_mem_cons.mpr ⟨lw_p32, List.forall_mem_cons.mpr ⟨lw_p33, List.forall_mem_cons.mpr ⟨lw_p34, List.forall_mem_cons.mpr ⟨lw_p35, List.forall_mem_cons.mpr ⟨lw_p36, List.forall_mem_cons.mpr ⟨lw_p37, List.forall_mem_cons.mpr ⟨lw_p38, List.forall_mem_cons.mpr ⟨lw_p39, List.forall_mem_cons.mpr ⟨lw_p40, List.forall_mem_cons.mpr ⟨lw_p41, List.forall_mem_cons.mpr ⟨lw_p42, List.forall_mem_cons.mpr ⟨lw_p43, List.forall_mem_cons.mpr ⟨lw_p44, List.forall_mem_cons.mpr ⟨lw_p45, List.forall_mem_cons.mpr ⟨lw_p46, List.forall_mem_cons.mpr ⟨lw_p47, fun _ h => absurd h List.not_mem_nil⟩⟩⟩⟩⟩⟩⟩⟩⟩⟩⟩⟩⟩⟩⟩⟩
theorem lw_p48 : lw_okq (⟨"StarfishWatchModel", "operand", "()V"⟩, 57) := ⟨⟨by decide +kernel, by decide +kernel⟩, List.mem_of_getElem? (i := 999) (by decide +kernel), List.mem_of_getElem? (i := 1297) (by decide +kernel), List.mem_of_getElem? (i := 1298) (by decide +kernel)⟩
theorem lw_p49 : lw_okq (⟨"StarfishWatchModel", "look", "()I"⟩, 57) := ⟨⟨by decide +kernel, by decide +kernel⟩, List.mem_of_getElem? (i := 999) (by decide +kernel), List.mem_of_getElem? (i := 1301) (by decide +kernel), List.mem_of_getElem? (i := 1302) (by decide +kernel)⟩
theorem lw_p50 : lw_okq (⟨"StarfishWatchModel", "addStep", "(II)V"⟩, 57) := ⟨⟨by decide +kernel, by decide +kernel⟩, List.mem_of_getElem? (i := 999) (by decide +kernel), List.mem_of_getElem? (i := 1308) (by decide +kernel), List.mem_of_getElem? (i := 1309) (by decide +kernel)⟩
theorem lw_p51 : lw_okq (⟨"StarfishWatchModel", "opens", "()Z"⟩, 57) := ⟨⟨by decide +kernel, by decide +kernel⟩, List.mem_of_getElem? (i := 999) (by decide +kernel), List.mem_of_getElem? (i := 1312) (by decide +kernel), List.mem_of_getElem? (i := 1313) (by decide +kernel)⟩
theorem lw_p52 : lw_okq (⟨"StarfishWatchModel", "wrong", "()V"⟩, 57) := ⟨⟨by decide +kernel, by decide +kernel⟩, List.mem_of_getElem? (i := 999) (by decide +kernel), List.mem_of_getElem? (i := 1316) (by decide +kernel), List.mem_of_getElem? (i := 1317) (by decide +kernel)⟩
theorem lw_p53 : lw_okq (⟨"StarfishWatchModel", "figure", "()V"⟩, 57) := ⟨⟨by decide +kernel, by decide +kernel⟩, List.mem_of_getElem? (i := 999) (by decide +kernel), List.mem_of_getElem? (i := 1320) (by decide +kernel), List.mem_of_getElem? (i := 1321) (by decide +kernel)⟩
theorem lw_p54 : lw_okq (⟨"StarfishWatchModel", "areStarThrower", "(I)Z"⟩, 57) := ⟨⟨by decide +kernel, by decide +kernel⟩, List.mem_of_getElem? (i := 999) (by decide +kernel), List.mem_of_getElem? (i := 1328) (by decide +kernel), List.mem_of_getElem? (i := 1329) (by decide +kernel)⟩
theorem lw_p55 : lw_okq (⟨"StarfishWatchModel", "oddsBy", "(III)I"⟩, 57) := ⟨⟨by decide +kernel, by decide +kernel⟩, List.mem_of_getElem? (i := 999) (by decide +kernel), List.mem_of_getElem? (i := 1332) (by decide +kernel), List.mem_of_getElem? (i := 1333) (by decide +kernel)⟩
theorem lw_p56 : lw_okq (⟨"StarfishWatchModel", "gives", "(I)I"⟩, 57) := ⟨⟨by decide +kernel, by decide +kernel⟩, List.mem_of_getElem? (i := 999) (by decide +kernel), List.mem_of_getElem? (i := 1336) (by decide +kernel), List.mem_of_getElem? (i := 1337) (by decide +kernel)⟩
theorem lw_p57 : lw_okq (⟨"StarfishWatchModel", "worked", "(III)I"⟩, 57) := ⟨⟨by decide +kernel, by decide +kernel⟩, List.mem_of_getElem? (i := 999) (by decide +kernel), List.mem_of_getElem? (i := 1340) (by decide +kernel), List.mem_of_getElem? (i := 1341) (by decide +kernel)⟩
theorem lw_p58 : lw_okq (⟨"StarfishWatchModel", "rowFault", "(I)I"⟩, 57) := ⟨⟨by decide +kernel, by decide +kernel⟩, List.mem_of_getElem? (i := 999) (by decide +kernel), List.mem_of_getElem? (i := 1351) (by decide +kernel), List.mem_of_getElem? (i := 1352) (by decide +kernel)⟩
theorem lw_p59 : lw_okq (⟨"StarfishWatchModel", "layPlan", "(I)V"⟩, 57) := ⟨⟨by decide +kernel, by decide +kernel⟩, List.mem_of_getElem? (i := 999) (by decide +kernel), List.mem_of_getElem? (i := 1355) (by decide +kernel), List.mem_of_getElem? (i := 1356) (by decide +kernel)⟩
theorem lw_p60 : lw_okq (⟨"StarfishWatchModel", "goesOn", "(II)Z"⟩, 57) := ⟨⟨by decide +kernel, by decide +kernel⟩, List.mem_of_getElem? (i := 999) (by decide +kernel), List.mem_of_getElem? (i := 1359) (by decide +kernel), List.mem_of_getElem? (i := 1360) (by decide +kernel)⟩
theorem lw_p61 : lw_okq (⟨"StarfishWatchModel", "at", "(II)I"⟩, 57) := ⟨⟨by decide +kernel, by decide +kernel⟩, List.mem_of_getElem? (i := 999) (by decide +kernel), List.mem_of_getElem? (i := 1363) (by decide +kernel), List.mem_of_getElem? (i := 1364) (by decide +kernel)⟩
theorem lw_p62 : lw_okq (⟨"StarfishWatchModel", "planOdds", "(I)I"⟩, 57) := ⟨⟨by decide +kernel, by decide +kernel⟩, List.mem_of_getElem? (i := 999) (by decide +kernel), List.mem_of_getElem? (i := 1372) (by decide +kernel), List.mem_of_getElem? (i := 1373) (by decide +kernel)⟩
theorem lw_p63 : lw_okq (⟨"StarfishWatchModel", "downMany", "()I"⟩, 57) := ⟨⟨by decide +kernel, by decide +kernel⟩, List.mem_of_getElem? (i := 999) (by decide +kernel), List.mem_of_getElem? (i := 1388) (by decide +kernel), List.mem_of_getElem? (i := 1389) (by decide +kernel)⟩
def lw_privs_4 : List (MethodName × Nat) := [(⟨"StarfishWatchModel", "operand", "()V"⟩, 57), (⟨"StarfishWatchModel", "look", "()I"⟩, 57), (⟨"StarfishWatchModel", "addStep", "(II)V"⟩, 57), (⟨"StarfishWatchModel", "opens", "()Z"⟩, 57), (⟨"StarfishWatchModel", "wrong", "()V"⟩, 57), (⟨"StarfishWatchModel", "figure", "()V"⟩, 57), (⟨"StarfishWatchModel", "areStarThrower", "(I)Z"⟩, 57), (⟨"StarfishWatchModel", "oddsBy", "(III)I"⟩, 57), (⟨"StarfishWatchModel", "gives", "(I)I"⟩, 57), (⟨"StarfishWatchModel", "worked", "(III)I"⟩, 57), (⟨"StarfishWatchModel", "rowFault", "(I)I"⟩, 57), (⟨"StarfishWatchModel", "layPlan", "(I)V"⟩, 57), (⟨"StarfishWatchModel", "goesOn", "(II)Z"⟩, 57), (⟨"StarfishWatchModel", "at", "(II)I"⟩, 57), (⟨"StarfishWatchModel", "planOdds", "(I)I"⟩, 57), (⟨"StarfishWatchModel", "downMany", "()I"⟩, 57)]
theorem lw_r4 : ∀ q ∈ lw_privs_4, lw_okq q := List.forall_mem_cons.mpr ⟨lw_p48, List.forall_mem_cons.mpr ⟨lw_p49, List.forall_mem_cons.mpr ⟨lw_p50, List.forall_mem_cons.mpr ⟨lw_p51, List.forall_mem_cons.mpr ⟨lw_p52, List.forall_mem_cons.mpr ⟨lw_p53, List.forall_mem_cons.mpr ⟨lw_p54, List.forall_mem_cons.mpr ⟨lw_p55, List.forall_mem_cons.mpr ⟨lw_p56, List.forall_mem_cons.mpr ⟨lw_p57, List.forall_mem_cons.mpr ⟨lw_p58, List.forall_mem_cons.mpr ⟨lw_p59, List.forall_mem_cons.mpr ⟨lw_p60, List.forall_mem_cons.mpr ⟨lw_p61, List.forall_mem_cons.mpr ⟨lw_p62, List.forall_mem_cons.mpr ⟨lw_p63, fun _ h => absurd h List.not_mem_nil⟩⟩⟩⟩⟩⟩⟩⟩⟩⟩⟩⟩⟩⟩⟩⟩
theorem lw_p64 : lw_okq (⟨"StarfishWatchModel", "minutesBy", "(II)I"⟩, 57) := ⟨⟨by decide +kernel, by decide +kernel⟩, List.mem_of_getElem? (i := 999) (by decide +kernel), List.mem_of_getElem? (i := 1392) (by decide +kernel), List.mem_of_getElem? (i := 1393) (by decide +kernel)⟩
theorem lw_p65 : lw_okq (⟨"StarfishWatchModel", "dropsAt", "(I)I"⟩, 57) := ⟨⟨by decide +kernel, by decide +kernel⟩, List.mem_of_getElem? (i := 999) (by decide +kernel), List.mem_of_getElem? (i := 1400) (by decide +kernel), List.mem_of_getElem? (i := 1401) (by decide +kernel)⟩
theorem lw_p66 : lw_okq (⟨"StarfishWatchModel", "firstDrop", "()I"⟩, 57) := ⟨⟨by decide +kernel, by decide +kernel⟩, List.mem_of_getElem? (i := 999) (by decide +kernel), List.mem_of_getElem? (i := 1408) (by decide +kernel), List.mem_of_getElem? (i := 1409) (by decide +kernel)⟩
theorem lw_p67 : lw_okq (⟨"StarfishWatchModel", "stillUp", "(I)I"⟩, 57) := ⟨⟨by decide +kernel, by decide +kernel⟩, List.mem_of_getElem? (i := 999) (by decide +kernel), List.mem_of_getElem? (i := 1412) (by decide +kernel), List.mem_of_getElem? (i := 1413) (by decide +kernel)⟩
theorem lw_p68 : lw_okq (⟨"StarfishWatchModel", "liesAt", "(I)I"⟩, 57) := ⟨⟨by decide +kernel, by decide +kernel⟩, List.mem_of_getElem? (i := 999) (by decide +kernel), List.mem_of_getElem? (i := 1423) (by decide +kernel), List.mem_of_getElem? (i := 1424) (by decide +kernel)⟩
theorem lw_p69 : lw_okq (⟨"StarfishWatchModel", "brightIn", "(II)I"⟩, 57) := ⟨⟨by decide +kernel, by decide +kernel⟩, List.mem_of_getElem? (i := 999) (by decide +kernel), List.mem_of_getElem? (i := 1431) (by decide +kernel), List.mem_of_getElem? (i := 1432) (by decide +kernel)⟩
theorem lw_p70 : lw_okq (⟨"StarfishWatchModel", "upNow", "()I"⟩, 57) := ⟨⟨by decide +kernel, by decide +kernel⟩, List.mem_of_getElem? (i := 999) (by decide +kernel), List.mem_of_getElem? (i := 1439) (by decide +kernel), List.mem_of_getElem? (i := 1440) (by decide +kernel)⟩
theorem lw_p71 : lw_okq (⟨"StarfishWatchModel", "steerBy", "(I)I"⟩, 57) := ⟨⟨by decide +kernel, by decide +kernel⟩, List.mem_of_getElem? (i := 999) (by decide +kernel), List.mem_of_getElem? (i := 1443) (by decide +kernel), List.mem_of_getElem? (i := 1444) (by decide +kernel)⟩
theorem lw_p72 : lw_okq (⟨"StarfishWatchModel", "thereBits", "()I"⟩, 57) := ⟨⟨by decide +kernel, by decide +kernel⟩, List.mem_of_getElem? (i := 999) (by decide +kernel), List.mem_of_getElem? (i := 1451) (by decide +kernel), List.mem_of_getElem? (i := 1452) (by decide +kernel)⟩
theorem lw_p73 : lw_okq (⟨"StarfishWatchModel", "allSteer", "(I)Z"⟩, 57) := ⟨⟨by decide +kernel, by decide +kernel⟩, List.mem_of_getElem? (i := 999) (by decide +kernel), List.mem_of_getElem? (i := 1455) (by decide +kernel), List.mem_of_getElem? (i := 1456) (by decide +kernel)⟩
theorem lw_p74 : lw_okq (⟨"StarfishWatchModel", "areSafe", "(I)Z"⟩, 57) := ⟨⟨by decide +kernel, by decide +kernel⟩, List.mem_of_getElem? (i := 999) (by decide +kernel), List.mem_of_getElem? (i := 1459) (by decide +kernel), List.mem_of_getElem? (i := 1460) (by decide +kernel)⟩
theorem lw_p75 : lw_okq (⟨"StarfishWatchModel", "isHomeBy", "(II)Z"⟩, 57) := ⟨⟨by decide +kernel, by decide +kernel⟩, List.mem_of_getElem? (i := 999) (by decide +kernel), List.mem_of_getElem? (i := 1470) (by decide +kernel), List.mem_of_getElem? (i := 1471) (by decide +kernel)⟩
theorem lw_p76 : lw_okq (⟨"StarfishWatchModel", "comesOn", "(IIIZ)Z"⟩, 57) := ⟨⟨by decide +kernel, by decide +kernel⟩, List.mem_of_getElem? (i := 999) (by decide +kernel), List.mem_of_getElem? (i := 1478) (by decide +kernel), List.mem_of_getElem? (i := 1479) (by decide +kernel)⟩
theorem lw_p77 : lw_okq (⟨"StarfishWatchModel", "bestOf", "(IIZ)I"⟩, 57) := ⟨⟨by decide +kernel, by decide +kernel⟩, List.mem_of_getElem? (i := 999) (by decide +kernel), List.mem_of_getElem? (i := 1486) (by decide +kernel), List.mem_of_getElem? (i := 1487) (by decide +kernel)⟩
theorem lw_p78 : lw_okq (⟨"StarfishWatchModel", "mayTurn", "(IIZ)Z"⟩, 57) := ⟨⟨by decide +kernel, by decide +kernel⟩, List.mem_of_getElem? (i := 999) (by decide +kernel), List.mem_of_getElem? (i := 1490) (by decide +kernel), List.mem_of_getElem? (i := 1491) (by decide +kernel)⟩
theorem lw_p79 : lw_okq (⟨"StarfishWatchModel", "passes", "(I)V"⟩, 57) := ⟨⟨by decide +kernel, by decide +kernel⟩, List.mem_of_getElem? (i := 999) (by decide +kernel), List.mem_of_getElem? (i := 1503) (by decide +kernel), List.mem_of_getElem? (i := 1504) (by decide +kernel)⟩
def lw_privs_5 : List (MethodName × Nat) := [(⟨"StarfishWatchModel", "minutesBy", "(II)I"⟩, 57), (⟨"StarfishWatchModel", "dropsAt", "(I)I"⟩, 57), (⟨"StarfishWatchModel", "firstDrop", "()I"⟩, 57), (⟨"StarfishWatchModel", "stillUp", "(I)I"⟩, 57), (⟨"StarfishWatchModel", "liesAt", "(I)I"⟩, 57), (⟨"StarfishWatchModel", "brightIn", "(II)I"⟩, 57), (⟨"StarfishWatchModel", "upNow", "()I"⟩, 57), (⟨"StarfishWatchModel", "steerBy", "(I)I"⟩, 57), (⟨"StarfishWatchModel", "thereBits", "()I"⟩, 57), (⟨"StarfishWatchModel", "allSteer", "(I)Z"⟩, 57), (⟨"StarfishWatchModel", "areSafe", "(I)Z"⟩, 57), (⟨"StarfishWatchModel", "isHomeBy", "(II)Z"⟩, 57), (⟨"StarfishWatchModel", "comesOn", "(IIIZ)Z"⟩, 57), (⟨"StarfishWatchModel", "bestOf", "(IIZ)I"⟩, 57), (⟨"StarfishWatchModel", "mayTurn", "(IIZ)Z"⟩, 57), (⟨"StarfishWatchModel", "passes", "(I)V"⟩, 57)]
theorem lw_r5 : ∀ q ∈ lw_privs_5, lw_okq q := List.forall_mem_cons.mpr ⟨lw_p64, List.forall_mem_cons.mpr ⟨lw_p65, List.forall_mem_cons.mpr ⟨lw_p66, List.forall_mem_cons.mpr ⟨lw_p67, List.forall_mem_cons.mpr ⟨lw_p68, List.forall_mem_cons.mpr ⟨lw_p69, List.forall_mem_cons.mpr ⟨lw_p70, List.forall_mem_cons.mpr ⟨lw_p71, List.forall_mem_cons.mpr ⟨lw_p72, List.forall_mem_cons.mpr ⟨lw_p73, List.forall_mem_cons.mpr ⟨lw_p74, List.forall_mem_cons.mpr ⟨lw_p75, List.forall_mem_cons.mpr ⟨lw_p76, List.forall_mem_cons.mpr ⟨lw_p77, List.forall_mem_cons.mpr ⟨lw_p78, List.forall_mem_cons.mpr ⟨lw_p79, fun _ h => absurd h List.not_mem_nil⟩⟩⟩⟩⟩⟩⟩⟩⟩⟩⟩⟩⟩⟩⟩⟩
theorem lw_p80 : lw_okq (⟨"StarfishWatchModel", "isBody", "(I)Z"⟩, 57) := ⟨⟨by decide +kernel, by decide +kernel⟩, List.mem_of_getElem? (i := 999) (by decide +kernel), List.mem_of_getElem? (i := 1539) (by decide +kernel), List.mem_of_getElem? (i := 1540) (by decide +kernel)⟩
theorem lw_p81 : lw_okq (⟨"StarfishWatchModel", "sticking", "(II)I"⟩, 57) := ⟨⟨by decide +kernel, by decide +kernel⟩, List.mem_of_getElem? (i := 999) (by decide +kernel), List.mem_of_getElem? (i := 1543) (by decide +kernel), List.mem_of_getElem? (i := 1544) (by decide +kernel)⟩
theorem lw_p82 : lw_okq (⟨"StarfishWatchModel", "ran", "(I)V"⟩, 57) := ⟨⟨by decide +kernel, by decide +kernel⟩, List.mem_of_getElem? (i := 999) (by decide +kernel), List.mem_of_getElem? (i := 1550) (by decide +kernel), List.mem_of_getElem? (i := 1551) (by decide +kernel)⟩
theorem lw_p83 : lw_okq (⟨"StarfishWatchModel", "plainSticks", "(II)I"⟩, 57) := ⟨⟨by decide +kernel, by decide +kernel⟩, List.mem_of_getElem? (i := 999) (by decide +kernel), List.mem_of_getElem? (i := 1554) (by decide +kernel), List.mem_of_getElem? (i := 1555) (by decide +kernel)⟩
theorem lw_p84 : lw_okq (⟨"StarfishWatchModel", "gooleSticks", "(II)I"⟩, 57) := ⟨⟨by decide +kernel, by decide +kernel⟩, List.mem_of_getElem? (i := 999) (by decide +kernel), List.mem_of_getElem? (i := 1558) (by decide +kernel), List.mem_of_getElem? (i := 1559) (by decide +kernel)⟩
theorem lw_p85 : lw_okq (⟨"StarfishWatchModel", "dropping", "(II)I"⟩, 57) := ⟨⟨by decide +kernel, by decide +kernel⟩, List.mem_of_getElem? (i := 999) (by decide +kernel), List.mem_of_getElem? (i := 1562) (by decide +kernel), List.mem_of_getElem? (i := 1563) (by decide +kernel)⟩
theorem lw_p86 : lw_okq (⟨"StarfishWatchModel", "heapDrops", "(II)I"⟩, 57) := ⟨⟨by decide +kernel, by decide +kernel⟩, List.mem_of_getElem? (i := 999) (by decide +kernel), List.mem_of_getElem? (i := 1566) (by decide +kernel), List.mem_of_getElem? (i := 1567) (by decide +kernel)⟩
theorem lw_p87 : lw_okq (⟨"StarfishWatchModel", "plainDrops", "(II)I"⟩, 57) := ⟨⟨by decide +kernel, by decide +kernel⟩, List.mem_of_getElem? (i := 999) (by decide +kernel), List.mem_of_getElem? (i := 1570) (by decide +kernel), List.mem_of_getElem? (i := 1571) (by decide +kernel)⟩
theorem lw_p88 : lw_okq (⟨"StarfishWatchModel", "lying", "(II)I"⟩, 57) := ⟨⟨by decide +kernel, by decide +kernel⟩, List.mem_of_getElem? (i := 999) (by decide +kernel), List.mem_of_getElem? (i := 1574) (by decide +kernel), List.mem_of_getElem? (i := 1575) (by decide +kernel)⟩
theorem lw_p89 : lw_okq (⟨"StarfishWatchModel", "flingLies", "(II)I"⟩, 57) := ⟨⟨by decide +kernel, by decide +kernel⟩, List.mem_of_getElem? (i := 999) (by decide +kernel), List.mem_of_getElem? (i := 1578) (by decide +kernel), List.mem_of_getElem? (i := 1579) (by decide +kernel)⟩
theorem lw_p90 : lw_okq (⟨"StarfishWatchModel", "plainLies", "(II)I"⟩, 57) := ⟨⟨by decide +kernel, by decide +kernel⟩, List.mem_of_getElem? (i := 999) (by decide +kernel), List.mem_of_getElem? (i := 1582) (by decide +kernel), List.mem_of_getElem? (i := 1583) (by decide +kernel)⟩
theorem lw_p91 : lw_okq (⟨"StarfishWatchModel", "telling", "(II)I"⟩, 57) := ⟨⟨by decide +kernel, by decide +kernel⟩, List.mem_of_getElem? (i := 999) (by decide +kernel), List.mem_of_getElem? (i := 1586) (by decide +kernel), List.mem_of_getElem? (i := 1587) (by decide +kernel)⟩
theorem lw_p92 : lw_okq (⟨"StarfishWatchModel", "plainTells", "(II)I"⟩, 57) := ⟨⟨by decide +kernel, by decide +kernel⟩, List.mem_of_getElem? (i := 999) (by decide +kernel), List.mem_of_getElem? (i := 1590) (by decide +kernel), List.mem_of_getElem? (i := 1591) (by decide +kernel)⟩
theorem lw_p93 : lw_okq (⟨"StarfishWatchModel", "whyNoPlace", "(II)I"⟩, 57) := ⟨⟨by decide +kernel, by decide +kernel⟩, List.mem_of_getElem? (i := 999) (by decide +kernel), List.mem_of_getElem? (i := 1610) (by decide +kernel), List.mem_of_getElem? (i := 1611) (by decide +kernel)⟩
def lw_privs_6 : List (MethodName × Nat) := [(⟨"StarfishWatchModel", "isBody", "(I)Z"⟩, 57), (⟨"StarfishWatchModel", "sticking", "(II)I"⟩, 57), (⟨"StarfishWatchModel", "ran", "(I)V"⟩, 57), (⟨"StarfishWatchModel", "plainSticks", "(II)I"⟩, 57), (⟨"StarfishWatchModel", "gooleSticks", "(II)I"⟩, 57), (⟨"StarfishWatchModel", "dropping", "(II)I"⟩, 57), (⟨"StarfishWatchModel", "heapDrops", "(II)I"⟩, 57), (⟨"StarfishWatchModel", "plainDrops", "(II)I"⟩, 57), (⟨"StarfishWatchModel", "lying", "(II)I"⟩, 57), (⟨"StarfishWatchModel", "flingLies", "(II)I"⟩, 57), (⟨"StarfishWatchModel", "plainLies", "(II)I"⟩, 57), (⟨"StarfishWatchModel", "telling", "(II)I"⟩, 57), (⟨"StarfishWatchModel", "plainTells", "(II)I"⟩, 57), (⟨"StarfishWatchModel", "whyNoPlace", "(II)I"⟩, 57)]
theorem lw_r6 : ∀ q ∈ lw_privs_6, lw_okq q := List.forall_mem_cons.mpr ⟨lw_p80, List.forall_mem_cons.mpr ⟨lw_p81, List.forall_mem_cons.mpr ⟨lw_p82, List.forall_mem_cons.mpr ⟨lw_p83, List.forall_mem_cons.mpr ⟨lw_p84, List.forall_mem_cons.mpr ⟨lw_p85, List.forall_mem_cons.mpr ⟨lw_p86, List.forall_mem_cons.mpr ⟨lw_p87, List.forall_mem_cons.mpr ⟨lw_p88, List.forall_mem_cons.mpr ⟨lw_p89, List.forall_mem_cons.mpr ⟨lw_p90, List.forall_mem_cons.mpr ⟨lw_p91, List.forall_mem_cons.mpr ⟨lw_p92, List.forall_mem_cons.mpr ⟨lw_p93, fun _ h => absurd h List.not_mem_nil⟩⟩⟩⟩⟩⟩⟩⟩⟩⟩⟩⟩⟩⟩
def lw_privs : List (MethodName × Nat) := lw_privs_1 ++ (lw_privs_2 ++ (lw_privs_3 ++ (lw_privs_4 ++ (lw_privs_5 ++ (lw_privs_6)))))
def lw_tbl : List Cond := k2_sels lw_privs ++ tables_1
theorem lw_privs_ok : ∀ q ∈ lw_privs, lw_okq q := by
  show ∀ q ∈ lw_privs_1 ++ (lw_privs_2 ++ (lw_privs_3 ++ (lw_privs_4 ++ (lw_privs_5 ++ (lw_privs_6))))), lw_okq q
  exact List.forall_mem_append.mpr ⟨lw_r1, List.forall_mem_append.mpr ⟨lw_r2, List.forall_mem_append.mpr ⟨lw_r3, List.forall_mem_append.mpr ⟨lw_r4, List.forall_mem_append.mpr ⟨lw_r5, lw_r6⟩⟩⟩⟩⟩

abbrev zWT : List Cond := lw_tbl.filter goodWord
theorem z_in {w : Cond} (i : Nat) (h : lw_tbl[i]? = some w) (g : goodWord w = true) : w ∈ zWT := List.mem_filter.mpr ⟨List.mem_of_getElem? h, g⟩
theorem z_i1 {w : Cond} (i : Nat) (h : tables_1_1[i]? = some w) (g : goodWord w = true) : w ∈ zWT := List.mem_filter.mpr ⟨List.mem_append_right _ (List.mem_append_left _ (List.mem_of_getElem? h)), g⟩
theorem z_i2 {w : Cond} (i : Nat) (h : tables_1_2[i]? = some w) (g : goodWord w = true) : w ∈ zWT := List.mem_filter.mpr ⟨List.mem_append_right _ (List.mem_append_right _ (List.mem_append_left _ (List.mem_of_getElem? h))), g⟩
theorem z_i3 {w : Cond} (i : Nat) (h : tables_1_3[i]? = some w) (g : goodWord w = true) : w ∈ zWT := List.mem_filter.mpr ⟨List.mem_append_right _ (List.mem_append_right _ (List.mem_append_right _ (List.mem_append_left _ (List.mem_of_getElem? h)))), g⟩
theorem z_i4 {w : Cond} (i : Nat) (h : tables_1_4[i]? = some w) (g : goodWord w = true) : w ∈ zWT := List.mem_filter.mpr ⟨List.mem_append_right _ (List.mem_append_right _ (List.mem_append_right _ (List.mem_append_right _ (List.mem_append_left _ (List.mem_of_getElem? h))))), g⟩
theorem z_i5 {w : Cond} (i : Nat) (h : tables_1_5[i]? = some w) (g : goodWord w = true) : w ∈ zWT := List.mem_filter.mpr ⟨List.mem_append_right _ (List.mem_append_right _ (List.mem_append_right _ (List.mem_append_right _ (List.mem_append_right _ (List.mem_append_left _ (List.mem_of_getElem? h)))))), g⟩
theorem z_i6 {w : Cond} (i : Nat) (h : tables_1_6[i]? = some w) (g : goodWord w = true) : w ∈ zWT := List.mem_filter.mpr ⟨List.mem_append_right _ (List.mem_append_right _ (List.mem_append_right _ (List.mem_append_right _ (List.mem_append_right _ (List.mem_append_right _ (List.mem_append_left _ (List.mem_of_getElem? h))))))), g⟩
theorem z_i7 {w : Cond} (i : Nat) (h : tables_1_7[i]? = some w) (g : goodWord w = true) : w ∈ zWT := List.mem_filter.mpr ⟨List.mem_append_right _ (List.mem_append_right _ (List.mem_append_right _ (List.mem_append_right _ (List.mem_append_right _ (List.mem_append_right _ (List.mem_append_right _ (List.mem_of_getElem? h))))))), g⟩
end
section
def RX0 : String := "StarfishWatch$Arms"
def TX0 : u_T := fun k => match k with
  | 0 => ("StarfishWatch$Arms", "kinds", "[I", true)
  | 1 => ("StarfishWatch$Arms", "trail", "[I", true)
  | 2 => ("StarfishWatch$Arms", "bodies", "I", false)
  | _ => ("StarfishWatch$Arms", "ran", "I", false)
def tyX0 : Nat → FieldType := fun k => match k with
  | 0 => .array .int
  | 1 => .array .int
  | 2 => .int
  | _ => .int
theorem nmX0 : ∀ a, a < 4 → ∀ b, b < 4 → a ≠ b → (TX0 a).2.1 ≠ (TX0 b).2.1 := by decide +kernel
theorem tyX0_ok : ∀ k, k < 4 → parseFieldDescriptor (TX0 k).2.2.1 = some (tyX0 k) := by decide +kernel
def RX1 : String := "StarfishWatch$Changes"
def TX1 : u_T := fun k => match k with
  | 0 => ("StarfishWatch$Changes", "what", "[I", true)
  | 1 => ("StarfishWatch$Changes", "number", "[I", true)
  | 2 => ("StarfishWatch$Changes", "was", "[I", true)
  | 3 => ("StarfishWatch$Changes", "became", "[I", true)
  | 4 => ("StarfishWatch$Changes", "done", "I", false)
  | _ => ("StarfishWatch$Changes", "all", "I", false)
def tyX1 : Nat → FieldType := fun k => match k with
  | 0 => .array .int
  | 1 => .array .int
  | 2 => .array .int
  | 3 => .array .int
  | 4 => .int
  | _ => .int
theorem nmX1 : ∀ a, a < 6 → ∀ b, b < 6 → a ≠ b → (TX1 a).2.1 ≠ (TX1 b).2.1 := by decide +kernel
theorem tyX1_ok : ∀ k, k < 6 → parseFieldDescriptor (TX1 k).2.2.1 = some (tyX1 k) := by decide +kernel
def RX2 : String := "StarfishWatch$Chart"
def TX2 : u_T := fun k => match k with
  | 0 => ("StarfishWatch$Chart", "sky", "LStarfishWatch$Sky;", true)
  | 1 => ("StarfishWatch$Chart", "xs", "[I", true)
  | 2 => ("StarfishWatch$Chart", "ys", "[I", true)
  | 3 => ("StarfishWatch$Chart", "cells", "I", false)
  | 4 => ("StarfishWatch$Chart", "moves", "I", false)
  | _ => ("StarfishWatch$Chart", "first", "I", false)
def tyX2 : Nat → FieldType := fun k => match k with
  | 0 => .object "StarfishWatch$Sky"
  | 1 => .array .int
  | 2 => .array .int
  | 3 => .int
  | 4 => .int
  | _ => .int
theorem nmX2 : ∀ a, a < 6 → ∀ b, b < 6 → a ≠ b → (TX2 a).2.1 ≠ (TX2 b).2.1 := by decide +kernel
theorem tyX2_ok : ∀ k, k < 6 → parseFieldDescriptor (TX2 k).2.2.1 = some (tyX2 k) := by decide +kernel
def RX3 : String := "StarfishWatch$Finder"
def TX3 : u_T := fun k => match k with
  | 0 => ("StarfishWatch$Finder", "sky", "LStarfishWatch$Sky;", true)
  | 1 => ("StarfishWatch$Finder", "bright", "[I", true)
  | 2 => ("StarfishWatch$Finder", "most", "I", false)
  | _ => ("StarfishWatch$Finder", "left", "I", false)
def tyX3 : Nat → FieldType := fun k => match k with
  | 0 => .object "StarfishWatch$Sky"
  | 1 => .array .int
  | 2 => .int
  | _ => .int
theorem nmX3 : ∀ a, a < 4 → ∀ b, b < 4 → a ≠ b → (TX3 a).2.1 ≠ (TX3 b).2.1 := by decide +kernel
theorem tyX3_ok : ∀ k, k < 4 → parseFieldDescriptor (TX3 k).2.2.1 = some (tyX3 k) := by decide +kernel
def RX4 : String := "StarfishWatch$Fleet"
def TX4 : u_T := fun k => match k with
  | 0 => ("StarfishWatch$Fleet", "sky", "LStarfishWatch$Sky;", true)
  | 1 => ("StarfishWatch$Fleet", "homeShip", "[I", true)
  | 2 => ("StarfishWatch$Fleet", "cameHome", "[I", true)
  | 3 => ("StarfishWatch$Fleet", "homes", "I", false)
  | 4 => ("StarfishWatch$Fleet", "sets", "I", false)
  | 5 => ("StarfishWatch$Fleet", "wrong", "I", false)
  | 6 => ("StarfishWatch$Fleet", "atHand", "I", false)
  | 7 => ("StarfishWatch$Fleet", "reached", "I", false)
  | _ => ("StarfishWatch$Fleet", "opening", "I", false)
def tyX4 : Nat → FieldType := fun k => match k with
  | 0 => .object "StarfishWatch$Sky"
  | 1 => .array .int
  | 2 => .array .int
  | 3 => .int
  | 4 => .int
  | 5 => .int
  | 6 => .int
  | 7 => .int
  | _ => .int
theorem nmX4 : ∀ a, a < 9 → ∀ b, b < 9 → a ≠ b → (TX4 a).2.1 ≠ (TX4 b).2.1 := by decide +kernel
theorem tyX4_ok : ∀ k, k < 9 → parseFieldDescriptor (TX4 k).2.2.1 = some (tyX4 k) := by decide +kernel
def RX5 : String := "StarfishWatch$Image"
def TX5 : u_T := fun k => match k with
  | 0 => ("StarfishWatch$Image", "led", "[I", true)
  | 1 => ("StarfishWatch$Image", "up", "I", false)
  | 2 => ("StarfishWatch$Image", "gone", "I", false)
  | 3 => ("StarfishWatch$Image", "stars", "I", false)
  | 4 => ("StarfishWatch$Image", "minute", "I", false)
  | 5 => ("StarfishWatch$Image", "seed", "I", false)
  | _ => ("StarfishWatch$Image", "isTaken", "Z", false)
def tyX5 : Nat → FieldType := fun k => match k with
  | 0 => .array .int
  | 1 => .int
  | 2 => .int
  | 3 => .int
  | 4 => .int
  | 5 => .int
  | _ => .boolean
theorem nmX5 : ∀ a, a < 7 → ∀ b, b < 7 → a ≠ b → (TX5 a).2.1 ≠ (TX5 b).2.1 := by decide +kernel
theorem tyX5_ok : ∀ k, k < 7 → parseFieldDescriptor (TX5 k).2.2.1 = some (tyX5 k) := by decide +kernel
def RX6 : String := "StarfishWatch$Law"
def TX6 : u_T := fun k => match k with
  | 0 => ("StarfishWatch$Law", "signs", "[I", true)
  | 1 => ("StarfishWatch$Law", "with", "[I", true)
  | 2 => ("StarfishWatch$Law", "stack", "[I", true)
  | 3 => ("StarfishWatch$Law", "names", "[I", true)
  | _ => ("StarfishWatch$Law", "size", "I", false)
def tyX6 : Nat → FieldType := fun k => match k with
  | 0 => .array .int
  | 1 => .array .int
  | 2 => .array .int
  | 3 => .array .int
  | _ => .int
theorem nmX6 : ∀ a, a < 5 → ∀ b, b < 5 → a ≠ b → (TX6 a).2.1 ≠ (TX6 b).2.1 := by decide +kernel
theorem tyX6_ok : ∀ k, k < 5 → parseFieldDescriptor (TX6 k).2.2.1 = some (tyX6 k) := by decide +kernel
def RX7 : String := "StarfishWatch$Plan"
def TX7 : u_T := fun k => match k with
  | 0 => ("StarfishWatch$Plan", "star", "[I", true)
  | 1 => ("StarfishWatch$Plan", "minute", "[I", true)
  | 2 => ("StarfishWatch$Plan", "odds", "[I", true)
  | 3 => ("StarfishWatch$Plan", "free", "[I", true)
  | 4 => ("StarfishWatch$Plan", "size", "I", false)
  | 5 => ("StarfishWatch$Plan", "done", "I", false)
  | _ => ("StarfishWatch$Plan", "z", "I", false)
def tyX7 : Nat → FieldType := fun k => match k with
  | 0 => .array .int
  | 1 => .array .int
  | 2 => .array .int
  | 3 => .array .int
  | 4 => .int
  | 5 => .int
  | _ => .int
theorem nmX7 : ∀ a, a < 7 → ∀ b, b < 7 → a ≠ b → (TX7 a).2.1 ≠ (TX7 b).2.1 := by decide +kernel
theorem tyX7_ok : ∀ k, k < 7 → parseFieldDescriptor (TX7 k).2.2.1 = some (tyX7 k) := by decide +kernel
def RX8 : String := "StarfishWatch$Shelf"
def TX8 : u_T := fun k => match k with
  | 0 => ("StarfishWatch$Shelf", "elements", "[J", true)
  | 1 => ("StarfishWatch$Shelf", "holds", "I", false)
  | 2 => ("StarfishWatch$Shelf", "length", "I", false)
  | _ => ("StarfishWatch$Shelf", "body", "I", false)
def tyX8 : Nat → FieldType := fun k => match k with
  | 0 => .array .long
  | 1 => .int
  | 2 => .int
  | _ => .int
theorem nmX8 : ∀ a, a < 4 → ∀ b, b < 4 → a ≠ b → (TX8 a).2.1 ≠ (TX8 b).2.1 := by decide +kernel
theorem tyX8_ok : ∀ k, k < 4 → parseFieldDescriptor (TX8 k).2.2.1 = some (tyX8 k) := by decide +kernel
def RX9 : String := "StarfishWatch$Sky"
def TX9 : u_T := fun k => match k with
  | 0 => ("StarfishWatch$Sky", "numbers", "[[I", true)
  | 1 => ("StarfishWatch$Sky", "needs", "[I", true)
  | 2 => ("StarfishWatch$Sky", "led", "[I", true)
  | 3 => ("StarfishWatch$Sky", "stars", "I", false)
  | 4 => ("StarfishWatch$Sky", "throwers", "I", false)
  | _ => ("StarfishWatch$Sky", "ships", "I", false)
def tyX9 : Nat → FieldType := fun k => match k with
  | 0 => .array (.array .int)
  | 1 => .array .int
  | 2 => .array .int
  | 3 => .int
  | 4 => .int
  | _ => .int
theorem nmX9 : ∀ a, a < 6 → ∀ b, b < 6 → a ≠ b → (TX9 a).2.1 ≠ (TX9 b).2.1 := by decide +kernel
theorem tyX9_ok : ∀ k, k < 6 → parseFieldDescriptor (TX9 k).2.2.1 = some (tyX9 k) := by decide +kernel
def RX10 : String := "StarfishWatch$Tape"
def TX10 : u_T := fun k => match k with
  | 0 => ("StarfishWatch$Tape", "bytes", "[I", true)
  | 1 => ("StarfishWatch$Tape", "length", "I", false)
  | 2 => ("StarfishWatch$Tape", "place", "I", false)
  | _ => ("StarfishWatch$Tape", "into", "LStarfishWatch$Law;", false)
def tyX10 : Nat → FieldType := fun k => match k with
  | 0 => .array .int
  | 1 => .int
  | 2 => .int
  | _ => .object "StarfishWatch$Law"
theorem nmX10 : ∀ a, a < 4 → ∀ b, b < 4 → a ≠ b → (TX10 a).2.1 ≠ (TX10 b).2.1 := by decide +kernel
theorem tyX10_ok : ∀ k, k < 4 → parseFieldDescriptor (TX10 k).2.2.1 = some (tyX10 k) := by decide +kernel
def RX11 : String := "StarfishWatch"
def TX11 : u_T := fun k => match k with
  | 0 => ("StarfishWatch", "sky", "LStarfishWatch$Sky;", true)
  | 1 => ("StarfishWatch", "fleet", "LStarfishWatch$Fleet;", true)
  | 2 => ("StarfishWatch", "chart", "LStarfishWatch$Chart;", true)
  | 3 => ("StarfishWatch", "finder", "LStarfishWatch$Finder;", true)
  | 4 => ("StarfishWatch", "plan", "LStarfishWatch$Plan;", true)
  | 5 => ("StarfishWatch", "tape", "LStarfishWatch$Tape;", true)
  | 6 => ("StarfishWatch", "changes", "LStarfishWatch$Changes;", true)
  | 7 => ("StarfishWatch", "kept", "LStarfishWatch$Image;", true)
  | 8 => ("StarfishWatch", "arms", "LStarfishWatch$Arms;", true)
  | 9 => ("StarfishWatch", "shelves", "[LStarfishWatch$Shelf;", true)
  | 10 => ("StarfishWatch", "inForce", "LStarfishWatch$Law;", false)
  | _ => ("StarfishWatch", "spare", "LStarfishWatch$Law;", false)
def tyX11 : Nat → FieldType := fun k => match k with
  | 0 => .object "StarfishWatch$Sky"
  | 1 => .object "StarfishWatch$Fleet"
  | 2 => .object "StarfishWatch$Chart"
  | 3 => .object "StarfishWatch$Finder"
  | 4 => .object "StarfishWatch$Plan"
  | 5 => .object "StarfishWatch$Tape"
  | 6 => .object "StarfishWatch$Changes"
  | 7 => .object "StarfishWatch$Image"
  | 8 => .object "StarfishWatch$Arms"
  | 9 => .array (.object "StarfishWatch$Shelf")
  | 10 => .object "StarfishWatch$Law"
  | _ => .object "StarfishWatch$Law"
theorem nmX11 : ∀ a, a < 12 → ∀ b, b < 12 → a ≠ b → (TX11 a).2.1 ≠ (TX11 b).2.1 := by decide +kernel
theorem tyX11_ok : ∀ k, k < 12 → parseFieldDescriptor (TX11 k).2.2.1 = some (tyX11 k) := by decide +kernel
def RX12 : String := "StarfishWatchModel"
def TX12 : u_T := fun k => match k with
  | 0 => ("StarfishWatchModel", "code", "I", false)
  | 1 => ("StarfishWatchModel", "many", "I", false)
  | 2 => ("StarfishWatchModel", "cellOf", "[I", true)
  | 3 => ("StarfishWatchModel", "brightOf", "[I", true)
  | 4 => ("StarfishWatchModel", "stickyOf", "[I", true)
  | 5 => ("StarfishWatchModel", "armsOf", "[I", true)
  | 6 => ("StarfishWatchModel", "upOf", "[I", true)
  | 7 => ("StarfishWatchModel", "goneOf", "[I", true)
  | 8 => ("StarfishWatchModel", "throwerMany", "I", false)
  | 9 => ("StarfishWatchModel", "flatOf", "[I", true)
  | 10 => ("StarfishWatchModel", "speedOf", "[I", true)
  | 11 => ("StarfishWatchModel", "shipMany", "I", false)
  | 12 => ("StarfishWatchModel", "needsOf", "[I", true)
  | 13 => ("StarfishWatchModel", "night", "[I", true)
  | 14 => ("StarfishWatchModel", "doneMany", "I", false)
  | 15 => ("StarfishWatchModel", "undoneMany", "I", false)
  | 16 => ("StarfishWatchModel", "changeOf", "[I", true)
  | 17 => ("StarfishWatchModel", "changeAt", "[I", true)
  | 18 => ("StarfishWatchModel", "before", "[I", true)
  | 19 => ("StarfishWatchModel", "behind", "[I", true)
  | 20 => ("StarfishWatchModel", "tape", "[B", true)
  | 21 => ("StarfishWatchModel", "taped", "I", false)
  | 22 => ("StarfishWatchModel", "here", "I", false)
  | 23 => ("StarfishWatchModel", "fault", "I", false)
  | 24 => ("StarfishWatchModel", "open", "I", false)
  | 25 => ("StarfishWatchModel", "laid", "I", false)
  | 26 => ("StarfishWatchModel", "act", "[B", true)
  | 27 => ("StarfishWatchModel", "with", "[I", true)
  | 28 => ("StarfishWatchModel", "lineMany", "[I", true)
  | 29 => ("StarfishWatchModel", "testEnd", "[S", true)
  | 30 => ("StarfishWatchModel", "lineEnd", "[S", true)
  | 31 => ("StarfishWatchModel", "facts", "[I", true)
  | 32 => ("StarfishWatchModel", "pile", "[I", true)
  | 33 => ("StarfishWatchModel", "hasLaw", "Z", false)
  | 34 => ("StarfishWatchModel", "planMany", "I", false)
  | 35 => ("StarfishWatchModel", "planStar", "[I", true)
  | 36 => ("StarfishWatchModel", "planBy", "[I", true)
  | 37 => ("StarfishWatchModel", "planAt", "[I", true)
  | 38 => ("StarfishWatchModel", "nextAt", "[I", true)
  | 39 => ("StarfishWatchModel", "allDone", "I", false)
  | 40 => ("StarfishWatchModel", "minutesOf", "[I", true)
  | 41 => ("StarfishWatchModel", "ledOf", "[I", true)
  | 42 => ("StarfishWatchModel", "hasImage", "Z", false)
  | 43 => ("StarfishWatchModel", "keptMany", "I", false)
  | 44 => ("StarfishWatchModel", "keptUp", "I", false)
  | 45 => ("StarfishWatchModel", "keptGone", "I", false)
  | 46 => ("StarfishWatchModel", "keptMinute", "I", false)
  | 47 => ("StarfishWatchModel", "keptSeed", "I", false)
  | 48 => ("StarfishWatchModel", "keptLed", "[I", true)
  | 49 => ("StarfishWatchModel", "bodies", "I", false)
  | 50 => ("StarfishWatchModel", "kind", "[I", true)
  | 51 => ("StarfishWatchModel", "traces", "I", false)
  | 52 => ("StarfishWatchModel", "traced", "[I", true)
  | 53 => ("StarfishWatchModel", "holds", "[I", true)
  | 54 => ("StarfishWatchModel", "size", "[I", true)
  | 55 => ("StarfishWatchModel", "elements", "[J", true)
  | _ => ("StarfishWatchModel", "shifted", "[J", true)
def tyX12 : Nat → FieldType := fun k => match k with
  | 0 => .int
  | 1 => .int
  | 2 => .array .int
  | 3 => .array .int
  | 4 => .array .int
  | 5 => .array .int
  | 6 => .array .int
  | 7 => .array .int
  | 8 => .int
  | 9 => .array .int
  | 10 => .array .int
  | 11 => .int
  | 12 => .array .int
  | 13 => .array .int
  | 14 => .int
  | 15 => .int
  | 16 => .array .int
  | 17 => .array .int
  | 18 => .array .int
  | 19 => .array .int
  | 20 => .array .byte
  | 21 => .int
  | 22 => .int
  | 23 => .int
  | 24 => .int
  | 25 => .int
  | 26 => .array .byte
  | 27 => .array .int
  | 28 => .array .int
  | 29 => .array .short
  | 30 => .array .short
  | 31 => .array .int
  | 32 => .array .int
  | 33 => .boolean
  | 34 => .int
  | 35 => .array .int
  | 36 => .array .int
  | 37 => .array .int
  | 38 => .array .int
  | 39 => .int
  | 40 => .array .int
  | 41 => .array .int
  | 42 => .boolean
  | 43 => .int
  | 44 => .int
  | 45 => .int
  | 46 => .int
  | 47 => .int
  | 48 => .array .int
  | 49 => .int
  | 50 => .array .int
  | 51 => .int
  | 52 => .array .int
  | 53 => .array .int
  | 54 => .array .int
  | 55 => .array .long
  | _ => .array .long
theorem nmX12 : ∀ a, a < 57 → ∀ b, b < 57 → a ≠ b → (TX12 a).2.1 ≠ (TX12 b).2.1 := by decide +kernel
theorem tyX12_ok : ∀ k, k < 57 → parseFieldDescriptor (TX12 k).2.2.1 = some (tyX12 k) := by decide +kernel
def RJ6 : String := "java/lang/Integer"
def RJ9 : String := "java/lang/Math"
def RL : String := "StarfishWatchLaw"
abbrev zM : Type := String × MethodName × ByteArray × Nat × Option FieldType
abbrev zmo (M : zM) : String := M.1
abbrev zmy (M : zM) : MethodName := M.2.1
abbrev zmc (M : zM) : ByteArray := M.2.2.1
abbrev zmn (M : zM) : Nat := M.2.2.2.1
abbrev zmr (M : zM) : Option FieldType := M.2.2.2.2
def zMk (M : zM) (n : Nat) : Prop := Cond.code (zmy M) (zmc M) (zmn M) (zmr M) ∈ zWT ∧ Cond.initialized (zmy M).cls ∈ zWT ∧ plainName (zmy M).cls = true ∧ ((zmy M).cls ≠ "java/lang/invoke/MethodHandle" ∧ (zmy M).cls ≠ "java/lang/invoke/VarHandle") ∧ (parseMethodDescriptor (zmy M).desc).map (fun d => d.parameters.length) = some n ∧ zmo M = (zmy M).cls
def m_X0_init : zM := (RX0, ⟨RX0, "<init>", "()V"⟩, prog_2_method_1_code, 1, none)
set_option maxRecDepth 100000 in
theorem k_X0_init : zMk m_X0_init 0 := ⟨z_i2 21 rfl rfl, z_i1 10 (by decide +kernel) rfl, by decide +kernel, ⟨by decide +kernel, by decide +kernel⟩, by decide +kernel, rfl⟩
theorem ki_X0_init : Cond.instanceMethod (zmy m_X0_init) ∈ zWT := z_i2 20 (by decide +kernel) rfl
def m_X0_add : zM := (RX0, ⟨RX0, "add", "(I)I"⟩, prog_2_method_2_code, 2, (some FieldType.int))
set_option maxRecDepth 100000 in
theorem k_X0_add : zMk m_X0_add 1 := ⟨z_i4 163 rfl rfl, z_i1 10 (by decide +kernel) rfl, by decide +kernel, ⟨by decide +kernel, by decide +kernel⟩, by decide +kernel, rfl⟩
theorem ki_X0_add : Cond.instanceMethod (zmy m_X0_add) ∈ zWT := z_i4 161 (by decide +kernel) rfl
theorem ks_X0_add : Cond.selects (zmy m_X0_add).cls (zmy m_X0_add) (zmy m_X0_add) ∈ zWT := z_i4 162 (by decide +kernel) rfl
def m_X0_kindOf : zM := (RX0, ⟨RX0, "kindOf", "(I)I"⟩, prog_2_method_3_code, 2, (some FieldType.int))
set_option maxRecDepth 100000 in
theorem k_X0_kindOf : zMk m_X0_kindOf 1 := ⟨z_i4 175 rfl rfl, z_i1 10 (by decide +kernel) rfl, by decide +kernel, ⟨by decide +kernel, by decide +kernel⟩, by decide +kernel, rfl⟩
theorem ki_X0_kindOf : Cond.instanceMethod (zmy m_X0_kindOf) ∈ zWT := z_i4 173 (by decide +kernel) rfl
theorem ks_X0_kindOf : Cond.selects (zmy m_X0_kindOf).cls (zmy m_X0_kindOf) (zmy m_X0_kindOf) ∈ zWT := z_i4 174 (by decide +kernel) rfl
def m_X0_isUnder : zM := (RX0, ⟨RX0, "isUnder", "(II)Z"⟩, prog_2_method_4_code, 4, (some FieldType.boolean))
set_option maxRecDepth 100000 in
theorem k_X0_isUnder : zMk m_X0_isUnder 2 := ⟨z_i5 33 rfl rfl, z_i1 10 (by decide +kernel) rfl, by decide +kernel, ⟨by decide +kernel, by decide +kernel⟩, by decide +kernel, rfl⟩
theorem kt_X0_isUnder : Cond.static (zmy m_X0_isUnder) ∈ zWT := z_i5 32 (by decide +kernel) rfl
def m_X0_above : zM := (RX0, ⟨RX0, "above", "(I)I"⟩, prog_2_method_5_code, 1, (some FieldType.int))
set_option maxRecDepth 100000 in
theorem k_X0_above : zMk m_X0_above 1 := ⟨z_i4 191 rfl rfl, z_i1 10 (by decide +kernel) rfl, by decide +kernel, ⟨by decide +kernel, by decide +kernel⟩, by decide +kernel, rfl⟩
theorem kt_X0_above : Cond.static (zmy m_X0_above) ∈ zWT := z_i4 190 (by decide +kernel) rfl
def m_X0_traced : zM := (RX0, ⟨RX0, "traced", "()I"⟩, prog_2_method_6_code, 1, (some FieldType.int))
set_option maxRecDepth 100000 in
theorem k_X0_traced : zMk m_X0_traced 0 := ⟨z_i4 209 rfl rfl, z_i1 10 (by decide +kernel) rfl, by decide +kernel, ⟨by decide +kernel, by decide +kernel⟩, by decide +kernel, rfl⟩
theorem ki_X0_traced : Cond.instanceMethod (zmy m_X0_traced) ∈ zWT := z_i4 207 (by decide +kernel) rfl
theorem ks_X0_traced : Cond.selects (zmy m_X0_traced).cls (zmy m_X0_traced) (zmy m_X0_traced) ∈ zWT := z_i4 208 (by decide +kernel) rfl
def m_X0_actOf : zM := (RX0, ⟨RX0, "actOf", "(III)I"⟩, prog_2_method_7_code, 4, (some FieldType.int))
set_option maxRecDepth 100000 in
theorem k_X0_actOf : zMk m_X0_actOf 3 := ⟨z_i4 171 rfl rfl, z_i1 10 (by decide +kernel) rfl, by decide +kernel, ⟨by decide +kernel, by decide +kernel⟩, by decide +kernel, rfl⟩
theorem ki_X0_actOf : Cond.instanceMethod (zmy m_X0_actOf) ∈ zWT := z_i4 169 (by decide +kernel) rfl
theorem ks_X0_actOf : Cond.selects (zmy m_X0_actOf).cls (zmy m_X0_actOf) (zmy m_X0_actOf) ∈ zWT := z_i4 170 (by decide +kernel) rfl
def m_X0_done : zM := (RX0, ⟨RX0, "done", "(IIII)I"⟩, prog_2_method_8_code, 5, (some FieldType.int))
set_option maxRecDepth 100000 in
theorem k_X0_done : zMk m_X0_done 4 := ⟨z_i4 179 rfl rfl, z_i1 10 (by decide +kernel) rfl, by decide +kernel, ⟨by decide +kernel, by decide +kernel⟩, by decide +kernel, rfl⟩
theorem ki_X0_done : Cond.instanceMethod (zmy m_X0_done) ∈ zWT := z_i4 178 (by decide +kernel) rfl
theorem ks_X0_done : Cond.selects (zmy m_X0_done).cls (zmy m_X0_done) (zmy m_X0_done) ∈ zWT := z_in 26 (by decide +kernel) rfl
def m_X0_doneAs : zM := (RX0, ⟨RX0, "doneAs", "(IIIII)I"⟩, prog_2_method_9_code, 9, (some FieldType.int))
set_option maxRecDepth 100000 in
theorem k_X0_doneAs : zMk m_X0_doneAs 5 := ⟨z_i4 183 rfl rfl, z_i1 10 (by decide +kernel) rfl, by decide +kernel, ⟨by decide +kernel, by decide +kernel⟩, by decide +kernel, rfl⟩
theorem ki_X0_doneAs : Cond.instanceMethod (zmy m_X0_doneAs) ∈ zWT := z_i4 182 (by decide +kernel) rfl
theorem ks_X0_doneAs : Cond.selects (zmy m_X0_doneAs).cls (zmy m_X0_doneAs) (zmy m_X0_doneAs) ∈ zWT := z_in 27 (by decide +kernel) rfl
def m_X0_doneAbove : zM := (RX0, ⟨RX0, "doneAbove", "(IIIII)I"⟩, prog_2_method_10_code, 6, (some FieldType.int))
set_option maxRecDepth 100000 in
theorem k_X0_doneAbove : zMk m_X0_doneAbove 5 := ⟨z_i4 201 rfl rfl, z_i1 10 (by decide +kernel) rfl, by decide +kernel, ⟨by decide +kernel, by decide +kernel⟩, by decide +kernel, rfl⟩
theorem ki_X0_doneAbove : Cond.instanceMethod (zmy m_X0_doneAbove) ∈ zWT := z_i4 200 (by decide +kernel) rfl
theorem ks_X0_doneAbove : Cond.selects (zmy m_X0_doneAbove).cls (zmy m_X0_doneAbove) (zmy m_X0_doneAbove) ∈ zWT := z_in 29 (by decide +kernel) rfl
def m_X0_ownOf : zM := (RX0, ⟨RX0, "ownOf", "(II)I"⟩, prog_2_method_11_code, 3, (some FieldType.int))
set_option maxRecDepth 100000 in
theorem k_X0_ownOf : zMk m_X0_ownOf 2 := ⟨z_i4 186 rfl rfl, z_i1 10 (by decide +kernel) rfl, by decide +kernel, ⟨by decide +kernel, by decide +kernel⟩, by decide +kernel, rfl⟩
theorem kt_X0_ownOf : Cond.static (zmy m_X0_ownOf) ∈ zWT := z_i4 185 (by decide +kernel) rfl
def m_X0_begin : zM := (RX0, ⟨RX0, "begin", "(I)V"⟩, prog_2_method_12_code, 2, none)
set_option maxRecDepth 100000 in
theorem k_X0_begin : zMk m_X0_begin 1 := ⟨z_i4 197 rfl rfl, z_i1 10 (by decide +kernel) rfl, by decide +kernel, ⟨by decide +kernel, by decide +kernel⟩, by decide +kernel, rfl⟩
theorem ki_X0_begin : Cond.instanceMethod (zmy m_X0_begin) ∈ zWT := z_i4 196 (by decide +kernel) rfl
theorem ks_X0_begin : Cond.selects (zmy m_X0_begin).cls (zmy m_X0_begin) (zmy m_X0_begin) ∈ zWT := z_in 28 (by decide +kernel) rfl
def m_X1_init : zM := (RX1, ⟨RX1, "<init>", "()V"⟩, prog_3_method_1_code, 1, none)
set_option maxRecDepth 100000 in
theorem k_X1_init : zMk m_X1_init 0 := ⟨z_i1 206 rfl rfl, z_i1 8 (by decide +kernel) rfl, by decide +kernel, ⟨by decide +kernel, by decide +kernel⟩, by decide +kernel, rfl⟩
theorem ki_X1_init : Cond.instanceMethod (zmy m_X1_init) ∈ zWT := z_i1 205 (by decide +kernel) rfl
def m_X1_add : zM := (RX1, ⟨RX1, "add", "(IIII)V"⟩, prog_3_method_2_code, 5, none)
set_option maxRecDepth 100000 in
theorem k_X1_add : zMk m_X1_add 4 := ⟨z_i2 219 rfl rfl, z_i1 8 (by decide +kernel) rfl, by decide +kernel, ⟨by decide +kernel, by decide +kernel⟩, by decide +kernel, rfl⟩
theorem ki_X1_add : Cond.instanceMethod (zmy m_X1_add) ∈ zWT := z_i2 217 (by decide +kernel) rfl
theorem ks_X1_add : Cond.selects (zmy m_X1_add).cls (zmy m_X1_add) (zmy m_X1_add) ∈ zWT := z_i2 218 (by decide +kernel) rfl
def m_X1_forgetOldest : zM := (RX1, ⟨RX1, "forgetOldest", "()V"⟩, prog_3_method_3_code, 1, none)
set_option maxRecDepth 100000 in
theorem k_X1_forgetOldest : zMk m_X1_forgetOldest 0 := ⟨z_i2 223 rfl rfl, z_i1 8 (by decide +kernel) rfl, by decide +kernel, ⟨by decide +kernel, by decide +kernel⟩, by decide +kernel, rfl⟩
theorem ki_X1_forgetOldest : Cond.instanceMethod (zmy m_X1_forgetOldest) ∈ zWT := z_i2 222 (by decide +kernel) rfl
theorem ks_X1_forgetOldest : Cond.selects (zmy m_X1_forgetOldest).cls (zmy m_X1_forgetOldest) (zmy m_X1_forgetOldest) ∈ zWT := z_in 2 (by decide +kernel) rfl
def m_X1_takeBack : zM := (RX1, ⟨RX1, "takeBack", "(LStarfishWatch$Sky;)I"⟩, prog_3_method_4_code, 2, (some FieldType.int))
set_option maxRecDepth 100000 in
theorem k_X1_takeBack : zMk m_X1_takeBack 1 := ⟨z_i4 141 rfl rfl, z_i1 8 (by decide +kernel) rfl, by decide +kernel, ⟨by decide +kernel, by decide +kernel⟩, by decide +kernel, rfl⟩
theorem ki_X1_takeBack : Cond.instanceMethod (zmy m_X1_takeBack) ∈ zWT := z_i4 139 (by decide +kernel) rfl
theorem ks_X1_takeBack : Cond.selects (zmy m_X1_takeBack).cls (zmy m_X1_takeBack) (zmy m_X1_takeBack) ∈ zWT := z_i4 140 (by decide +kernel) rfl
def m_X1_doAgain : zM := (RX1, ⟨RX1, "doAgain", "(LStarfishWatch$Sky;)I"⟩, prog_3_method_5_code, 2, (some FieldType.int))
set_option maxRecDepth 100000 in
theorem k_X1_doAgain : zMk m_X1_doAgain 1 := ⟨z_i4 155 rfl rfl, z_i1 8 (by decide +kernel) rfl, by decide +kernel, ⟨by decide +kernel, by decide +kernel⟩, by decide +kernel, rfl⟩
theorem ki_X1_doAgain : Cond.instanceMethod (zmy m_X1_doAgain) ∈ zWT := z_i4 153 (by decide +kernel) rfl
theorem ks_X1_doAgain : Cond.selects (zmy m_X1_doAgain).cls (zmy m_X1_doAgain) (zmy m_X1_doAgain) ∈ zWT := z_i4 154 (by decide +kernel) rfl
def m_X1_lay : zM := (RX1, ⟨RX1, "lay", "(LStarfishWatch$Sky;II)V"⟩, prog_3_method_6_code, 5, none)
set_option maxRecDepth 100000 in
theorem k_X1_lay : zMk m_X1_lay 3 := ⟨z_i4 145 rfl rfl, z_i1 8 (by decide +kernel) rfl, by decide +kernel, ⟨by decide +kernel, by decide +kernel⟩, by decide +kernel, rfl⟩
theorem ki_X1_lay : Cond.instanceMethod (zmy m_X1_lay) ∈ zWT := z_i4 144 (by decide +kernel) rfl
theorem ks_X1_lay : Cond.selects (zmy m_X1_lay).cls (zmy m_X1_lay) (zmy m_X1_lay) ∈ zWT := z_in 25 (by decide +kernel) rfl
def m_X2_init : zM := (RX2, ⟨RX2, "<init>", "(LStarfishWatch$Sky;)V"⟩, prog_4_method_1_code, 2, none)
set_option maxRecDepth 100000 in
theorem k_X2_init : zMk m_X2_init 1 := ⟨z_i1 105 rfl rfl, z_i1 4 (by decide +kernel) rfl, by decide +kernel, ⟨by decide +kernel, by decide +kernel⟩, by decide +kernel, rfl⟩
theorem ki_X2_init : Cond.instanceMethod (zmy m_X2_init) ∈ zWT := z_i1 104 (by decide +kernel) rfl
def m_X2_read : zM := (RX2, ⟨RX2, "read", "(LStarfishWatch$Shelf;Z)V"⟩, prog_4_method_2_code, 6, none)
set_option maxRecDepth 100000 in
theorem k_X2_read : zMk m_X2_read 2 := ⟨z_i4 39 rfl rfl, z_i1 4 (by decide +kernel) rfl, by decide +kernel, ⟨by decide +kernel, by decide +kernel⟩, by decide +kernel, rfl⟩
theorem ki_X2_read : Cond.instanceMethod (zmy m_X2_read) ∈ zWT := z_i4 37 (by decide +kernel) rfl
theorem ks_X2_read : Cond.selects (zmy m_X2_read).cls (zmy m_X2_read) (zmy m_X2_read) ∈ zWT := z_i4 38 (by decide +kernel) rfl
def m_X2_findMoves : zM := (RX2, ⟨RX2, "findMoves", "()V"⟩, prog_4_method_3_code, 3, none)
set_option maxRecDepth 100000 in
theorem k_X2_findMoves : zMk m_X2_findMoves 0 := ⟨z_i4 45 rfl rfl, z_i1 4 (by decide +kernel) rfl, by decide +kernel, ⟨by decide +kernel, by decide +kernel⟩, by decide +kernel, rfl⟩
theorem ki_X2_findMoves : Cond.instanceMethod (zmy m_X2_findMoves) ∈ zWT := z_i4 43 (by decide +kernel) rfl
theorem ks_X2_findMoves : Cond.selects (zmy m_X2_findMoves).cls (zmy m_X2_findMoves) (zmy m_X2_findMoves) ∈ zWT := z_i4 44 (by decide +kernel) rfl
def m_X2_fits : zM := (RX2, ⟨RX2, "fits", "(II)Z"⟩, prog_4_method_4_code, 6, (some FieldType.boolean))
set_option maxRecDepth 100000 in
theorem k_X2_fits : zMk m_X2_fits 2 := ⟨z_i4 49 rfl rfl, z_i1 4 (by decide +kernel) rfl, by decide +kernel, ⟨by decide +kernel, by decide +kernel⟩, by decide +kernel, rfl⟩
theorem ki_X2_fits : Cond.instanceMethod (zmy m_X2_fits) ∈ zWT := z_i4 48 (by decide +kernel) rfl
theorem ks_X2_fits : Cond.selects (zmy m_X2_fits).cls (zmy m_X2_fits) (zmy m_X2_fits) ∈ zWT := z_in 22 (by decide +kernel) rfl
def m_X3_init : zM := (RX3, ⟨RX3, "<init>", "(LStarfishWatch$Sky;)V"⟩, prog_5_method_1_code, 2, none)
set_option maxRecDepth 100000 in
theorem k_X3_init : zMk m_X3_init 1 := ⟨z_i1 132 rfl rfl, z_i1 5 (by decide +kernel) rfl, by decide +kernel, ⟨by decide +kernel, by decide +kernel⟩, by decide +kernel, rfl⟩
theorem ki_X3_init : Cond.instanceMethod (zmy m_X3_init) ∈ zWT := z_i1 131 (by decide +kernel) rfl
def m_X3_look : zM := (RX3, ⟨RX3, "look", "(II)V"⟩, prog_5_method_2_code, 5, none)
set_option maxRecDepth 100000 in
theorem k_X3_look : zMk m_X3_look 2 := ⟨z_i3 214 rfl rfl, z_i1 5 (by decide +kernel) rfl, by decide +kernel, ⟨by decide +kernel, by decide +kernel⟩, by decide +kernel, rfl⟩
theorem ki_X3_look : Cond.instanceMethod (zmy m_X3_look) ∈ zWT := z_i3 212 (by decide +kernel) rfl
theorem ks_X3_look : Cond.selects (zmy m_X3_look).cls (zmy m_X3_look) (zmy m_X3_look) ∈ zWT := z_i3 213 (by decide +kernel) rfl
def m_X3_furthestRight : zM := (RX3, ⟨RX3, "furthestRight", "(II)I"⟩, prog_5_method_3_code, 2, (some FieldType.int))
set_option maxRecDepth 100000 in
theorem k_X3_furthestRight : zMk m_X3_furthestRight 2 := ⟨z_i3 223 rfl rfl, z_i1 5 (by decide +kernel) rfl, by decide +kernel, ⟨by decide +kernel, by decide +kernel⟩, by decide +kernel, rfl⟩
theorem kt_X3_furthestRight : Cond.static (zmy m_X3_furthestRight) ∈ zWT := z_i3 222 (by decide +kernel) rfl
def m_X3_spread : zM := (RX3, ⟨RX3, "spread", "()V"⟩, prog_5_method_4_code, 3, none)
set_option maxRecDepth 100000 in
theorem k_X3_spread : zMk m_X3_spread 0 := ⟨z_i3 218 rfl rfl, z_i1 5 (by decide +kernel) rfl, by decide +kernel, ⟨by decide +kernel, by decide +kernel⟩, by decide +kernel, rfl⟩
theorem ki_X3_spread : Cond.instanceMethod (zmy m_X3_spread) ∈ zWT := z_i3 217 (by decide +kernel) rfl
theorem ks_X3_spread : Cond.selects (zmy m_X3_spread).cls (zmy m_X3_spread) (zmy m_X3_spread) ∈ zWT := z_in 18 (by decide +kernel) rfl
def m_X3_sumOf : zM := (RX3, ⟨RX3, "sumOf", "(II)I"⟩, prog_5_method_5_code, 5, (some FieldType.int))
set_option maxRecDepth 100000 in
theorem k_X3_sumOf : zMk m_X3_sumOf 2 := ⟨z_i3 228 rfl rfl, z_i1 5 (by decide +kernel) rfl, by decide +kernel, ⟨by decide +kernel, by decide +kernel⟩, by decide +kernel, rfl⟩
theorem ki_X3_sumOf : Cond.instanceMethod (zmy m_X3_sumOf) ∈ zWT := z_i3 227 (by decide +kernel) rfl
theorem ks_X3_sumOf : Cond.selects (zmy m_X3_sumOf).cls (zmy m_X3_sumOf) (zmy m_X3_sumOf) ∈ zWT := z_in 19 (by decide +kernel) rfl
def m_X4_init : zM := (RX4, ⟨RX4, "<init>", "(LStarfishWatch$Sky;)V"⟩, prog_6_method_1_code, 2, none)
set_option maxRecDepth 100000 in
theorem k_X4_init : zMk m_X4_init 1 := ⟨z_i1 67 rfl rfl, z_i1 3 (by decide +kernel) rfl, by decide +kernel, ⟨by decide +kernel, by decide +kernel⟩, by decide +kernel, rfl⟩
theorem ki_X4_init : Cond.instanceMethod (zmy m_X4_init) ∈ zWT := z_i1 66 (by decide +kernel) rfl
def m_X4_steering : zM := (RX4, ⟨RX4, "steering", "(I)I"⟩, prog_6_method_2_code, 4, (some FieldType.int))
set_option maxRecDepth 100000 in
theorem k_X4_steering : zMk m_X4_steering 1 := ⟨z_i3 237 rfl rfl, z_i1 3 (by decide +kernel) rfl, by decide +kernel, ⟨by decide +kernel, by decide +kernel⟩, by decide +kernel, rfl⟩
theorem ki_X4_steering : Cond.instanceMethod (zmy m_X4_steering) ∈ zWT := z_i3 235 (by decide +kernel) rfl
theorem ks_X4_steering : Cond.selects (zmy m_X4_steering).cls (zmy m_X4_steering) (zmy m_X4_steering) ∈ zWT := z_i3 236 (by decide +kernel) rfl
def m_X4_fewestFor : zM := (RX4, ⟨RX4, "fewestFor", "(I)I"⟩, prog_6_method_3_code, 6, (some FieldType.int))
set_option maxRecDepth 100000 in
theorem k_X4_fewestFor : zMk m_X4_fewestFor 1 := ⟨z_i4 5 rfl rfl, z_i1 3 (by decide +kernel) rfl, by decide +kernel, ⟨by decide +kernel, by decide +kernel⟩, by decide +kernel, rfl⟩
theorem ki_X4_fewestFor : Cond.instanceMethod (zmy m_X4_fewestFor) ∈ zWT := z_i4 3 (by decide +kernel) rfl
theorem ks_X4_fewestFor : Cond.selects (zmy m_X4_fewestFor).cls (zmy m_X4_fewestFor) (zmy m_X4_fewestFor) ∈ zWT := z_i4 4 (by decide +kernel) rfl
def m_X4_serves : zM := (RX4, ⟨RX4, "serves", "(II)Z"⟩, prog_6_method_4_code, 4, (some FieldType.boolean))
set_option maxRecDepth 100000 in
theorem k_X4_serves : zMk m_X4_serves 2 := ⟨z_i4 11 rfl rfl, z_i1 3 (by decide +kernel) rfl, by decide +kernel, ⟨by decide +kernel, by decide +kernel⟩, by decide +kernel, rfl⟩
theorem ki_X4_serves : Cond.instanceMethod (zmy m_X4_serves) ∈ zWT := z_i4 10 (by decide +kernel) rfl
theorem ks_X4_serves : Cond.selects (zmy m_X4_serves).cls (zmy m_X4_serves) (zmy m_X4_serves) ∈ zWT := z_in 20 (by decide +kernel) rfl
def m_X4_readHomes : zM := (RX4, ⟨RX4, "readHomes", "(LStarfishWatch$Shelf;)V"⟩, prog_6_method_5_code, 5, none)
set_option maxRecDepth 100000 in
theorem k_X4_readHomes : zMk m_X4_readHomes 1 := ⟨z_i4 19 rfl rfl, z_i1 3 (by decide +kernel) rfl, by decide +kernel, ⟨by decide +kernel, by decide +kernel⟩, by decide +kernel, rfl⟩
theorem ki_X4_readHomes : Cond.instanceMethod (zmy m_X4_readHomes) ∈ zWT := z_i4 17 (by decide +kernel) rfl
theorem ks_X4_readHomes : Cond.selects (zmy m_X4_readHomes).cls (zmy m_X4_readHomes) (zmy m_X4_readHomes) ∈ zWT := z_i4 18 (by decide +kernel) rfl
def m_X4_findWrong : zM := (RX4, ⟨RX4, "findWrong", "()V"⟩, prog_6_method_6_code, 3, none)
set_option maxRecDepth 100000 in
theorem k_X4_findWrong : zMk m_X4_findWrong 0 := ⟨z_i4 25 rfl rfl, z_i1 3 (by decide +kernel) rfl, by decide +kernel, ⟨by decide +kernel, by decide +kernel⟩, by decide +kernel, rfl⟩
theorem ki_X4_findWrong : Cond.instanceMethod (zmy m_X4_findWrong) ∈ zWT := z_i4 23 (by decide +kernel) rfl
theorem ks_X4_findWrong : Cond.selects (zmy m_X4_findWrong).cls (zmy m_X4_findWrong) (zmy m_X4_findWrong) ∈ zWT := z_i4 24 (by decide +kernel) rfl
def m_X4_allIsSo : zM := (RX4, ⟨RX4, "allIsSo", "(I)Z"⟩, prog_6_method_7_code, 4, (some FieldType.boolean))
set_option maxRecDepth 100000 in
theorem k_X4_allIsSo : zMk m_X4_allIsSo 1 := ⟨z_i4 30 rfl rfl, z_i1 3 (by decide +kernel) rfl, by decide +kernel, ⟨by decide +kernel, by decide +kernel⟩, by decide +kernel, rfl⟩
theorem ki_X4_allIsSo : Cond.instanceMethod (zmy m_X4_allIsSo) ∈ zWT := z_i4 29 (by decide +kernel) rfl
theorem ks_X4_allIsSo : Cond.selects (zmy m_X4_allIsSo).cls (zmy m_X4_allIsSo) (zmy m_X4_allIsSo) ∈ zWT := z_in 21 (by decide +kernel) rfl
def m_X4_playTurns : zM := (RX4, ⟨RX4, "playTurns", "(I)V"⟩, prog_6_method_8_code, 7, none)
set_option maxRecDepth 100000 in
theorem k_X4_playTurns : zMk m_X4_playTurns 1 := ⟨z_i4 58 rfl rfl, z_i1 3 (by decide +kernel) rfl, by decide +kernel, ⟨by decide +kernel, by decide +kernel⟩, by decide +kernel, rfl⟩
theorem ki_X4_playTurns : Cond.instanceMethod (zmy m_X4_playTurns) ∈ zWT := z_i4 56 (by decide +kernel) rfl
theorem ks_X4_playTurns : Cond.selects (zmy m_X4_playTurns).cls (zmy m_X4_playTurns) (zmy m_X4_playTurns) ∈ zWT := z_i4 57 (by decide +kernel) rfl
def m_X4_mostBehind : zM := (RX4, ⟨RX4, "mostBehind", "(IIII)I"⟩, prog_6_method_9_code, 8, (some FieldType.int))
set_option maxRecDepth 100000 in
theorem k_X4_mostBehind : zMk m_X4_mostBehind 4 := ⟨z_i4 67 rfl rfl, z_i1 3 (by decide +kernel) rfl, by decide +kernel, ⟨by decide +kernel, by decide +kernel⟩, by decide +kernel, rfl⟩
theorem ki_X4_mostBehind : Cond.instanceMethod (zmy m_X4_mostBehind) ∈ zWT := z_i4 66 (by decide +kernel) rfl
theorem ks_X4_mostBehind : Cond.selects (zmy m_X4_mostBehind).cls (zmy m_X4_mostBehind) (zmy m_X4_mostBehind) ∈ zWT := z_in 24 (by decide +kernel) rfl
def m_X4_fewestBehind : zM := (RX4, ⟨RX4, "fewestBehind", "(IIII)I"⟩, prog_6_method_10_code, 8, (some FieldType.int))
set_option maxRecDepth 100000 in
theorem k_X4_fewestBehind : zMk m_X4_fewestBehind 4 := ⟨z_i4 63 rfl rfl, z_i1 3 (by decide +kernel) rfl, by decide +kernel, ⟨by decide +kernel, by decide +kernel⟩, by decide +kernel, rfl⟩
theorem ki_X4_fewestBehind : Cond.instanceMethod (zmy m_X4_fewestBehind) ∈ zWT := z_i4 62 (by decide +kernel) rfl
theorem ks_X4_fewestBehind : Cond.selects (zmy m_X4_fewestBehind).cls (zmy m_X4_fewestBehind) (zmy m_X4_fewestBehind) ∈ zWT := z_in 23 (by decide +kernel) rfl
def m_X5_init : zM := (RX5, ⟨RX5, "<init>", "()V"⟩, prog_7_method_1_code, 1, none)
set_option maxRecDepth 100000 in
theorem k_X5_init : zMk m_X5_init 0 := ⟨z_i1 232 rfl rfl, z_i1 9 (by decide +kernel) rfl, by decide +kernel, ⟨by decide +kernel, by decide +kernel⟩, by decide +kernel, rfl⟩
theorem ki_X5_init : Cond.instanceMethod (zmy m_X5_init) ∈ zWT := z_i1 231 (by decide +kernel) rfl
def m_X5_takeOf : zM := (RX5, ⟨RX5, "takeOf", "(LStarfishWatch$Sky;)V"⟩, prog_7_method_2_code, 2, none)
set_option maxRecDepth 100000 in
theorem k_X5_takeOf : zMk m_X5_takeOf 1 := ⟨z_i4 121 rfl rfl, z_i1 9 (by decide +kernel) rfl, by decide +kernel, ⟨by decide +kernel, by decide +kernel⟩, by decide +kernel, rfl⟩
theorem ki_X5_takeOf : Cond.instanceMethod (zmy m_X5_takeOf) ∈ zWT := z_i4 119 (by decide +kernel) rfl
theorem ks_X5_takeOf : Cond.selects (zmy m_X5_takeOf).cls (zmy m_X5_takeOf) (zmy m_X5_takeOf) ∈ zWT := z_i4 120 (by decide +kernel) rfl
def m_X5_layOn : zM := (RX5, ⟨RX5, "layOn", "(LStarfishWatch$Sky;)V"⟩, prog_7_method_3_code, 3, none)
set_option maxRecDepth 100000 in
theorem k_X5_layOn : zMk m_X5_layOn 1 := ⟨z_i4 132 rfl rfl, z_i1 9 (by decide +kernel) rfl, by decide +kernel, ⟨by decide +kernel, by decide +kernel⟩, by decide +kernel, rfl⟩
theorem ki_X5_layOn : Cond.instanceMethod (zmy m_X5_layOn) ∈ zWT := z_i4 130 (by decide +kernel) rfl
theorem ks_X5_layOn : Cond.selects (zmy m_X5_layOn).cls (zmy m_X5_layOn) (zmy m_X5_layOn) ∈ zWT := z_i4 131 (by decide +kernel) rfl
def m_X6_init : zM := (RX6, ⟨RX6, "<init>", "()V"⟩, prog_8_method_1_code, 1, none)
set_option maxRecDepth 100000 in
theorem k_X6_init : zMk m_X6_init 0 := ⟨z_i2 67 rfl rfl, z_i1 12 (by decide +kernel) rfl, by decide +kernel, ⟨by decide +kernel, by decide +kernel⟩, by decide +kernel, rfl⟩
theorem ki_X6_init : Cond.instanceMethod (zmy m_X6_init) ∈ zWT := z_i2 66 (by decide +kernel) rfl
def m_X6_clear : zM := (RX6, ⟨RX6, "clear", "()V"⟩, prog_8_method_2_code, 1, none)
set_option maxRecDepth 100000 in
theorem k_X6_clear : zMk m_X6_clear 0 := ⟨z_i3 11 rfl rfl, z_i1 12 (by decide +kernel) rfl, by decide +kernel, ⟨by decide +kernel, by decide +kernel⟩, by decide +kernel, rfl⟩
theorem ki_X6_clear : Cond.instanceMethod (zmy m_X6_clear) ∈ zWT := z_i3 9 (by decide +kernel) rfl
theorem ks_X6_clear : Cond.selects (zmy m_X6_clear).cls (zmy m_X6_clear) (zmy m_X6_clear) ∈ zWT := z_i3 10 (by decide +kernel) rfl
def m_X6_add : zM := (RX6, ⟨RX6, "add", "(II)V"⟩, prog_8_method_3_code, 3, none)
set_option maxRecDepth 100000 in
theorem k_X6_add : zMk m_X6_add 2 := ⟨z_i3 43 rfl rfl, z_i1 12 (by decide +kernel) rfl, by decide +kernel, ⟨by decide +kernel, by decide +kernel⟩, by decide +kernel, rfl⟩
theorem ki_X6_add : Cond.instanceMethod (zmy m_X6_add) ∈ zWT := z_i3 41 (by decide +kernel) rfl
theorem ks_X6_add : Cond.selects (zmy m_X6_add).cls (zmy m_X6_add) (zmy m_X6_add) ∈ zWT := z_i3 42 (by decide +kernel) rfl
def m_X6_leadHere : zM := (RX6, ⟨RX6, "leadHere", "(I)V"⟩, prog_8_method_4_code, 2, none)
set_option maxRecDepth 100000 in
theorem k_X6_leadHere : zMk m_X6_leadHere 1 := ⟨z_i3 60 rfl rfl, z_i1 12 (by decide +kernel) rfl, by decide +kernel, ⟨by decide +kernel, by decide +kernel⟩, by decide +kernel, rfl⟩
theorem ki_X6_leadHere : Cond.instanceMethod (zmy m_X6_leadHere) ∈ zWT := z_i3 58 (by decide +kernel) rfl
theorem ks_X6_leadHere : Cond.selects (zmy m_X6_leadHere).cls (zmy m_X6_leadHere) (zmy m_X6_leadHere) ∈ zWT := z_i3 59 (by decide +kernel) rfl
def m_X6_oddsOf : zM := (RX6, ⟨RX6, "oddsOf", "(LStarfishWatch$Sky;III)I"⟩, prog_8_method_5_code, 6, (some FieldType.int))
set_option maxRecDepth 100000 in
theorem k_X6_oddsOf : zMk m_X6_oddsOf 4 := ⟨z_i3 80 rfl rfl, z_i1 12 (by decide +kernel) rfl, by decide +kernel, ⟨by decide +kernel, by decide +kernel⟩, by decide +kernel, rfl⟩
theorem ki_X6_oddsOf : Cond.instanceMethod (zmy m_X6_oddsOf) ∈ zWT := z_i3 78 (by decide +kernel) rfl
theorem ks_X6_oddsOf : Cond.selects (zmy m_X6_oddsOf).cls (zmy m_X6_oddsOf) (zmy m_X6_oddsOf) ∈ zWT := z_i3 79 (by decide +kernel) rfl
def m_X6_withoutText : zM := (RX6, ⟨RX6, "withoutText", "()I"⟩, prog_8_method_6_code, 1, (some FieldType.int))
set_option maxRecDepth 100000 in
theorem k_X6_withoutText : zMk m_X6_withoutText 0 := ⟨z_i3 85 rfl rfl, z_i1 12 (by decide +kernel) rfl, by decide +kernel, ⟨by decide +kernel, by decide +kernel⟩, by decide +kernel, rfl⟩
theorem ki_X6_withoutText : Cond.instanceMethod (zmy m_X6_withoutText) ∈ zWT := z_i3 84 (by decide +kernel) rfl
theorem ks_X6_withoutText : Cond.selects (zmy m_X6_withoutText).cls (zmy m_X6_withoutText) (zmy m_X6_withoutText) ∈ zWT := z_in 12 (by decide +kernel) rfl
def m_X6_worth : zM := (RX6, ⟨RX6, "worth", "()I"⟩, prog_8_method_7_code, 5, (some FieldType.int))
set_option maxRecDepth 100000 in
theorem k_X6_worth : zMk m_X6_worth 0 := ⟨z_i3 89 rfl rfl, z_i1 12 (by decide +kernel) rfl, by decide +kernel, ⟨by decide +kernel, by decide +kernel⟩, by decide +kernel, rfl⟩
theorem ki_X6_worth : Cond.instanceMethod (zmy m_X6_worth) ∈ zWT := z_i3 88 (by decide +kernel) rfl
theorem ks_X6_worth : Cond.selects (zmy m_X6_worth).cls (zmy m_X6_worth) (zmy m_X6_worth) ∈ zWT := z_in 13 (by decide +kernel) rfl
def m_X6_named : zM := (RX6, ⟨RX6, "named", "(I)I"⟩, prog_8_method_8_code, 2, (some FieldType.int))
set_option maxRecDepth 100000 in
theorem k_X6_named : zMk m_X6_named 1 := ⟨z_i3 93 rfl rfl, z_i1 12 (by decide +kernel) rfl, by decide +kernel, ⟨by decide +kernel, by decide +kernel⟩, by decide +kernel, rfl⟩
theorem ki_X6_named : Cond.instanceMethod (zmy m_X6_named) ∈ zWT := z_i3 92 (by decide +kernel) rfl
theorem ks_X6_named : Cond.selects (zmy m_X6_named).cls (zmy m_X6_named) (zmy m_X6_named) ∈ zWT := z_in 14 (by decide +kernel) rfl
def m_X6_truth : zM := (RX6, ⟨RX6, "truth", "(Z)I"⟩, prog_8_method_9_code, 1, (some FieldType.int))
set_option maxRecDepth 100000 in
theorem k_X6_truth : zMk m_X6_truth 1 := ⟨z_i3 99 rfl rfl, z_i1 12 (by decide +kernel) rfl, by decide +kernel, ⟨by decide +kernel, by decide +kernel⟩, by decide +kernel, rfl⟩
theorem kt_X6_truth : Cond.static (zmy m_X6_truth) ∈ zWT := z_i3 98 (by decide +kernel) rfl
def m_X6_joined : zM := (RX6, ⟨RX6, "joined", "(III)I"⟩, prog_8_method_10_code, 3, (some FieldType.int))
set_option maxRecDepth 100000 in
theorem k_X6_joined : zMk m_X6_joined 3 := ⟨z_i3 102 rfl rfl, z_i1 12 (by decide +kernel) rfl, by decide +kernel, ⟨by decide +kernel, by decide +kernel⟩, by decide +kernel, rfl⟩
theorem kt_X6_joined : Cond.static (zmy m_X6_joined) ∈ zWT := z_i3 101 (by decide +kernel) rfl
def m_X7_init : zM := (RX7, ⟨RX7, "<init>", "()V"⟩, prog_9_method_1_code, 1, none)
set_option maxRecDepth 100000 in
theorem k_X7_init : zMk m_X7_init 0 := ⟨z_i1 153 rfl rfl, z_i1 6 (by decide +kernel) rfl, by decide +kernel, ⟨by decide +kernel, by decide +kernel⟩, by decide +kernel, rfl⟩
theorem ki_X7_init : Cond.instanceMethod (zmy m_X7_init) ∈ zWT := z_i1 152 (by decide +kernel) rfl
def m_X7_read : zM := (RX7, ⟨RX7, "read", "(LStarfishWatch$Shelf;LStarfishWatch$Sky;LStarfishWatch$Law;)V"⟩, prog_9_method_2_code, 8, none)
set_option maxRecDepth 100000 in
theorem k_X7_read : zMk m_X7_read 3 := ⟨z_i3 118 rfl rfl, z_i1 6 (by decide +kernel) rfl, by decide +kernel, ⟨by decide +kernel, by decide +kernel⟩, by decide +kernel, rfl⟩
theorem ki_X7_read : Cond.instanceMethod (zmy m_X7_read) ∈ zWT := z_i3 116 (by decide +kernel) rfl
theorem ks_X7_read : Cond.selects (zmy m_X7_read).cls (zmy m_X7_read) (zmy m_X7_read) ∈ zWT := z_i3 117 (by decide +kernel) rfl
def m_X7_nightFrom : zM := (RX7, ⟨RX7, "nightFrom", "(I)I"⟩, prog_9_method_3_code, 3, (some FieldType.int))
set_option maxRecDepth 100000 in
theorem k_X7_nightFrom : zMk m_X7_nightFrom 1 := ⟨z_i4 77 rfl rfl, z_i1 6 (by decide +kernel) rfl, by decide +kernel, ⟨by decide +kernel, by decide +kernel⟩, by decide +kernel, rfl⟩
theorem ki_X7_nightFrom : Cond.instanceMethod (zmy m_X7_nightFrom) ∈ zWT := z_i4 75 (by decide +kernel) rfl
theorem ks_X7_nightFrom : Cond.selects (zmy m_X7_nightFrom).cls (zmy m_X7_nightFrom) (zmy m_X7_nightFrom) ∈ zWT := z_i4 76 (by decide +kernel) rfl
def m_X7_next : zM := (RX7, ⟨RX7, "next", "(I)I"⟩, prog_9_method_4_code, 1, (some FieldType.int))
set_option maxRecDepth 100000 in
theorem k_X7_next : zMk m_X7_next 1 := ⟨z_i4 80 rfl rfl, z_i1 6 (by decide +kernel) rfl, by decide +kernel, ⟨by decide +kernel, by decide +kernel⟩, by decide +kernel, rfl⟩
theorem kt_X7_next : Cond.static (zmy m_X7_next) ∈ zWT := z_i4 79 (by decide +kernel) rfl
def m_X7_sticks : zM := (RX7, ⟨RX7, "sticks", "(II)Z"⟩, prog_9_method_5_code, 2, (some FieldType.boolean))
set_option maxRecDepth 100000 in
theorem k_X7_sticks : zMk m_X7_sticks 2 := ⟨z_i4 84 rfl rfl, z_i1 6 (by decide +kernel) rfl, by decide +kernel, ⟨by decide +kernel, by decide +kernel⟩, by decide +kernel, rfl⟩
theorem kt_X7_sticks : Cond.static (zmy m_X7_sticks) ∈ zWT := z_i4 83 (by decide +kernel) rfl
def m_X8_init : zM := (RX8, ⟨RX8, "<init>", "()V"⟩, prog_10_method_1_code, 1, none)
set_option maxRecDepth 100000 in
theorem k_X8_init : zMk m_X8_init 0 := ⟨z_i2 44 rfl rfl, z_i1 11 (by decide +kernel) rfl, by decide +kernel, ⟨by decide +kernel, by decide +kernel⟩, by decide +kernel, rfl⟩
theorem ki_X8_init : Cond.instanceMethod (zmy m_X8_init) ∈ zWT := z_i2 43 (by decide +kernel) rfl
def m_X8_isEmpty : zM := (RX8, ⟨RX8, "isEmpty", "()Z"⟩, prog_10_method_2_code, 1, (some FieldType.boolean))
set_option maxRecDepth 100000 in
theorem k_X8_isEmpty : zMk m_X8_isEmpty 0 := ⟨z_i2 166 rfl rfl, z_i1 11 (by decide +kernel) rfl, by decide +kernel, ⟨by decide +kernel, by decide +kernel⟩, by decide +kernel, rfl⟩
theorem ki_X8_isEmpty : Cond.instanceMethod (zmy m_X8_isEmpty) ∈ zWT := z_i2 164 (by decide +kernel) rfl
theorem ks_X8_isEmpty : Cond.selects (zmy m_X8_isEmpty).cls (zmy m_X8_isEmpty) (zmy m_X8_isEmpty) ∈ zWT := z_i2 165 (by decide +kernel) rfl
def m_X8_isBody : zM := (RX8, ⟨RX8, "isBody", "()Z"⟩, prog_10_method_3_code, 1, (some FieldType.boolean))
set_option maxRecDepth 100000 in
theorem k_X8_isBody : zMk m_X8_isBody 0 := ⟨z_i5 29 rfl rfl, z_i1 11 (by decide +kernel) rfl, by decide +kernel, ⟨by decide +kernel, by decide +kernel⟩, by decide +kernel, rfl⟩
theorem ki_X8_isBody : Cond.instanceMethod (zmy m_X8_isBody) ∈ zWT := z_i5 27 (by decide +kernel) rfl
theorem ks_X8_isBody : Cond.selects (zmy m_X8_isBody).cls (zmy m_X8_isBody) (zmy m_X8_isBody) ∈ zWT := z_i5 28 (by decide +kernel) rfl
def m_X8_isRow : zM := (RX8, ⟨RX8, "isRow", "()Z"⟩, prog_10_method_4_code, 1, (some FieldType.boolean))
set_option maxRecDepth 100000 in
theorem k_X8_isRow : zMk m_X8_isRow 0 := ⟨z_i5 0 rfl rfl, z_i1 11 (by decide +kernel) rfl, by decide +kernel, ⟨by decide +kernel, by decide +kernel⟩, by decide +kernel, rfl⟩
theorem ki_X8_isRow : Cond.instanceMethod (zmy m_X8_isRow) ∈ zWT := z_i4 238 (by decide +kernel) rfl
theorem ks_X8_isRow : Cond.selects (zmy m_X8_isRow).cls (zmy m_X8_isRow) (zmy m_X8_isRow) ∈ zWT := z_i4 239 (by decide +kernel) rfl
def m_X8_isBytes : zM := (RX8, ⟨RX8, "isBytes", "()Z"⟩, prog_10_method_5_code, 1, (some FieldType.boolean))
set_option maxRecDepth 100000 in
theorem k_X8_isBytes : zMk m_X8_isBytes 0 := ⟨z_i2 170 rfl rfl, z_i1 11 (by decide +kernel) rfl, by decide +kernel, ⟨by decide +kernel, by decide +kernel⟩, by decide +kernel, rfl⟩
theorem ki_X8_isBytes : Cond.instanceMethod (zmy m_X8_isBytes) ∈ zWT := z_i2 168 (by decide +kernel) rfl
theorem ks_X8_isBytes : Cond.selects (zmy m_X8_isBytes).cls (zmy m_X8_isBytes) (zmy m_X8_isBytes) ∈ zWT := z_i2 169 (by decide +kernel) rfl
def m_X8_refusal : zM := (RX8, ⟨RX8, "refusal", "()I"⟩, prog_10_method_6_code, 1, (some FieldType.int))
set_option maxRecDepth 100000 in
theorem k_X8_refusal : zMk m_X8_refusal 0 := ⟨z_i3 113 rfl rfl, z_i1 11 (by decide +kernel) rfl, by decide +kernel, ⟨by decide +kernel, by decide +kernel⟩, by decide +kernel, rfl⟩
theorem ki_X8_refusal : Cond.instanceMethod (zmy m_X8_refusal) ∈ zWT := z_i3 111 (by decide +kernel) rfl
theorem ks_X8_refusal : Cond.selects (zmy m_X8_refusal).cls (zmy m_X8_refusal) (zmy m_X8_refusal) ∈ zWT := z_i3 112 (by decide +kernel) rfl
def m_X8_holdNothing : zM := (RX8, ⟨RX8, "holdNothing", "()V"⟩, prog_10_method_7_code, 1, none)
set_option maxRecDepth 100000 in
theorem k_X8_holdNothing : zMk m_X8_holdNothing 0 := ⟨z_i4 218 rfl rfl, z_i1 11 (by decide +kernel) rfl, by decide +kernel, ⟨by decide +kernel, by decide +kernel⟩, by decide +kernel, rfl⟩
theorem ki_X8_holdNothing : Cond.instanceMethod (zmy m_X8_holdNothing) ∈ zWT := z_i4 216 (by decide +kernel) rfl
theorem ks_X8_holdNothing : Cond.selects (zmy m_X8_holdNothing).cls (zmy m_X8_holdNothing) (zmy m_X8_holdNothing) ∈ zWT := z_i4 217 (by decide +kernel) rfl
def m_X8_holdBody : zM := (RX8, ⟨RX8, "holdBody", "(I)V"⟩, prog_10_method_8_code, 2, none)
set_option maxRecDepth 100000 in
theorem k_X8_holdBody : zMk m_X8_holdBody 1 := ⟨z_i4 222 rfl rfl, z_i1 11 (by decide +kernel) rfl, by decide +kernel, ⟨by decide +kernel, by decide +kernel⟩, by decide +kernel, rfl⟩
theorem ki_X8_holdBody : Cond.instanceMethod (zmy m_X8_holdBody) ∈ zWT := z_i4 220 (by decide +kernel) rfl
theorem ks_X8_holdBody : Cond.selects (zmy m_X8_holdBody).cls (zmy m_X8_holdBody) (zmy m_X8_holdBody) ∈ zWT := z_i4 221 (by decide +kernel) rfl
def m_X8_holdRow : zM := (RX8, ⟨RX8, "holdRow", "(II)V"⟩, prog_10_method_9_code, 4, none)
set_option maxRecDepth 100000 in
theorem k_X8_holdRow : zMk m_X8_holdRow 2 := ⟨z_i4 230 rfl rfl, z_i1 11 (by decide +kernel) rfl, by decide +kernel, ⟨by decide +kernel, by decide +kernel⟩, by decide +kernel, rfl⟩
theorem ki_X8_holdRow : Cond.instanceMethod (zmy m_X8_holdRow) ∈ zWT := z_i4 228 (by decide +kernel) rfl
theorem ks_X8_holdRow : Cond.selects (zmy m_X8_holdRow).cls (zmy m_X8_holdRow) (zmy m_X8_holdRow) ∈ zWT := z_i4 229 (by decide +kernel) rfl
def m_X8_hasPlace : zM := (RX8, ⟨RX8, "hasPlace", "(I)Z"⟩, prog_10_method_10_code, 2, (some FieldType.boolean))
set_option maxRecDepth 100000 in
theorem k_X8_hasPlace : zMk m_X8_hasPlace 1 := ⟨z_i2 178 rfl rfl, z_i1 11 (by decide +kernel) rfl, by decide +kernel, ⟨by decide +kernel, by decide +kernel⟩, by decide +kernel, rfl⟩
theorem ki_X8_hasPlace : Cond.instanceMethod (zmy m_X8_hasPlace) ∈ zWT := z_i2 176 (by decide +kernel) rfl
theorem ks_X8_hasPlace : Cond.selects (zmy m_X8_hasPlace).cls (zmy m_X8_hasPlace) (zmy m_X8_hasPlace) ∈ zWT := z_i2 177 (by decide +kernel) rfl
def m_X8_hasRun : zM := (RX8, ⟨RX8, "hasRun", "(II)Z"⟩, prog_10_method_11_code, 3, (some FieldType.boolean))
set_option maxRecDepth 100000 in
theorem k_X8_hasRun : zMk m_X8_hasRun 2 := ⟨z_i5 20 rfl rfl, z_i1 11 (by decide +kernel) rfl, by decide +kernel, ⟨by decide +kernel, by decide +kernel⟩, by decide +kernel, rfl⟩
theorem ki_X8_hasRun : Cond.instanceMethod (zmy m_X8_hasRun) ∈ zWT := z_i5 18 (by decide +kernel) rfl
theorem ks_X8_hasRun : Cond.selects (zmy m_X8_hasRun).cls (zmy m_X8_hasRun) (zmy m_X8_hasRun) ∈ zWT := z_i5 19 (by decide +kernel) rfl
def m_X8_told : zM := (RX8, ⟨RX8, "told", "(I)I"⟩, prog_10_method_12_code, 2, (some FieldType.int))
set_option maxRecDepth 100000 in
theorem k_X8_told : zMk m_X8_told 1 := ⟨z_i2 182 rfl rfl, z_i1 11 (by decide +kernel) rfl, by decide +kernel, ⟨by decide +kernel, by decide +kernel⟩, by decide +kernel, rfl⟩
theorem ki_X8_told : Cond.instanceMethod (zmy m_X8_told) ∈ zWT := z_i2 180 (by decide +kernel) rfl
theorem ks_X8_told : Cond.selects (zmy m_X8_told).cls (zmy m_X8_told) (zmy m_X8_told) ∈ zWT := z_i2 181 (by decide +kernel) rfl
def m_X8_write : zM := (RX8, ⟨RX8, "write", "(IJ)V"⟩, prog_10_method_13_code, 4, none)
set_option maxRecDepth 100000 in
theorem k_X8_write : zMk m_X8_write 2 := ⟨z_i5 4 rfl rfl, z_i1 11 (by decide +kernel) rfl, by decide +kernel, ⟨by decide +kernel, by decide +kernel⟩, by decide +kernel, rfl⟩
theorem ki_X8_write : Cond.instanceMethod (zmy m_X8_write) ∈ zWT := z_i5 2 (by decide +kernel) rfl
theorem ks_X8_write : Cond.selects (zmy m_X8_write).cls (zmy m_X8_write) (zmy m_X8_write) ∈ zWT := z_i5 3 (by decide +kernel) rfl
def m_X8_lowest : zM := (RX8, ⟨RX8, "lowest", "(J)J"⟩, prog_10_method_14_code, 3, (some FieldType.long))
set_option maxRecDepth 100000 in
theorem k_X8_lowest : zMk m_X8_lowest 1 := ⟨z_i5 8 rfl rfl, z_i1 11 (by decide +kernel) rfl, by decide +kernel, ⟨by decide +kernel, by decide +kernel⟩, by decide +kernel, rfl⟩
theorem ki_X8_lowest : Cond.instanceMethod (zmy m_X8_lowest) ∈ zWT := z_i5 7 (by decide +kernel) rfl
theorem ks_X8_lowest : Cond.selects (zmy m_X8_lowest).cls (zmy m_X8_lowest) (zmy m_X8_lowest) ∈ zWT := z_in 30 (by decide +kernel) rfl
def m_X9_init : zM := (RX9, ⟨RX9, "<init>", "()V"⟩, prog_11_method_1_code, 1, none)
set_option maxRecDepth 100000 in
theorem k_X9_init : zMk m_X9_init 0 := ⟨z_i1 29 rfl rfl, z_i1 2 (by decide +kernel) rfl, by decide +kernel, ⟨by decide +kernel, by decide +kernel⟩, by decide +kernel, rfl⟩
theorem ki_X9_init : Cond.instanceMethod (zmy m_X9_init) ∈ zWT := z_i1 28 (by decide +kernel) rfl
def m_X9_holders : zM := (RX9, ⟨RX9, "holders", "(I)I"⟩, prog_11_method_2_code, 2, (some FieldType.int))
set_option maxRecDepth 100000 in
theorem k_X9_holders : zMk m_X9_holders 1 := ⟨z_i2 154 rfl rfl, z_i1 2 (by decide +kernel) rfl, by decide +kernel, ⟨by decide +kernel, by decide +kernel⟩, by decide +kernel, rfl⟩
theorem ki_X9_holders : Cond.instanceMethod (zmy m_X9_holders) ∈ zWT := z_i2 152 (by decide +kernel) rfl
theorem ks_X9_holders : Cond.selects (zmy m_X9_holders).cls (zmy m_X9_holders) (zmy m_X9_holders) ∈ zWT := z_i2 153 (by decide +kernel) rfl
def m_X9_has : zM := (RX9, ⟨RX9, "has", "(II)Z"⟩, prog_11_method_3_code, 3, (some FieldType.boolean))
set_option maxRecDepth 100000 in
theorem k_X9_has : zMk m_X9_has 2 := ⟨z_i2 150 rfl rfl, z_i1 2 (by decide +kernel) rfl, by decide +kernel, ⟨by decide +kernel, by decide +kernel⟩, by decide +kernel, rfl⟩
theorem ki_X9_has : Cond.instanceMethod (zmy m_X9_has) ∈ zWT := z_i2 148 (by decide +kernel) rfl
theorem ks_X9_has : Cond.selects (zmy m_X9_has).cls (zmy m_X9_has) (zmy m_X9_has) ∈ zWT := z_i2 149 (by decide +kernel) rfl
def m_X9_mayBe : zM := (RX9, ⟨RX9, "mayBe", "(II)Z"⟩, prog_11_method_4_code, 3, (some FieldType.boolean))
set_option maxRecDepth 100000 in
theorem k_X9_mayBe : zMk m_X9_mayBe 2 := ⟨z_i2 134 rfl rfl, z_i1 2 (by decide +kernel) rfl, by decide +kernel, ⟨by decide +kernel, by decide +kernel⟩, by decide +kernel, rfl⟩
theorem ki_X9_mayBe : Cond.instanceMethod (zmy m_X9_mayBe) ∈ zWT := z_i2 132 (by decide +kernel) rfl
theorem ks_X9_mayBe : Cond.selects (zmy m_X9_mayBe).cls (zmy m_X9_mayBe) (zmy m_X9_mayBe) ∈ zWT := z_i2 133 (by decide +kernel) rfl
def m_X9_get : zM := (RX9, ⟨RX9, "get", "(II)I"⟩, prog_11_method_5_code, 3, (some FieldType.int))
set_option maxRecDepth 100000 in
theorem k_X9_get : zMk m_X9_get 2 := ⟨z_i2 214 rfl rfl, z_i1 2 (by decide +kernel) rfl, by decide +kernel, ⟨by decide +kernel, by decide +kernel⟩, by decide +kernel, rfl⟩
theorem ki_X9_get : Cond.instanceMethod (zmy m_X9_get) ∈ zWT := z_i2 212 (by decide +kernel) rfl
theorem ks_X9_get : Cond.selects (zmy m_X9_get).cls (zmy m_X9_get) (zmy m_X9_get) ∈ zWT := z_i2 213 (by decide +kernel) rfl
def m_X9_set : zM := (RX9, ⟨RX9, "set", "(III)V"⟩, prog_11_method_6_code, 4, none)
set_option maxRecDepth 100000 in
theorem k_X9_set : zMk m_X9_set 3 := ⟨z_i2 146 rfl rfl, z_i1 2 (by decide +kernel) rfl, by decide +kernel, ⟨by decide +kernel, by decide +kernel⟩, by decide +kernel, rfl⟩
theorem ki_X9_set : Cond.instanceMethod (zmy m_X9_set) ∈ zWT := z_i2 144 (by decide +kernel) rfl
theorem ks_X9_set : Cond.selects (zmy m_X9_set).cls (zmy m_X9_set) (zmy m_X9_set) ∈ zWT := z_i2 145 (by decide +kernel) rfl
def m_X9_isThrow : zM := (RX9, ⟨RX9, "isThrow", "(I)Z"⟩, prog_11_method_7_code, 2, (some FieldType.boolean))
set_option maxRecDepth 100000 in
theorem k_X9_isThrow : zMk m_X9_isThrow 1 := ⟨z_i3 72 rfl rfl, z_i1 2 (by decide +kernel) rfl, by decide +kernel, ⟨by decide +kernel, by decide +kernel⟩, by decide +kernel, rfl⟩
theorem ki_X9_isThrow : Cond.instanceMethod (zmy m_X9_isThrow) ∈ zWT := z_i3 70 (by decide +kernel) rfl
theorem ks_X9_isThrow : Cond.selects (zmy m_X9_isThrow).cls (zmy m_X9_isThrow) (zmy m_X9_isThrow) ∈ zWT := z_i3 71 (by decide +kernel) rfl
def m_X9_starIn : zM := (RX9, ⟨RX9, "starIn", "(I)I"⟩, prog_11_method_8_code, 3, (some FieldType.int))
set_option maxRecDepth 100000 in
theorem k_X9_starIn : zMk m_X9_starIn 1 := ⟨z_i2 142 rfl rfl, z_i1 2 (by decide +kernel) rfl, by decide +kernel, ⟨by decide +kernel, by decide +kernel⟩, by decide +kernel, rfl⟩
theorem ki_X9_starIn : Cond.instanceMethod (zmy m_X9_starIn) ∈ zWT := z_i2 140 (by decide +kernel) rfl
theorem ks_X9_starIn : Cond.selects (zmy m_X9_starIn).cls (zmy m_X9_starIn) (zmy m_X9_starIn) ∈ zWT := z_i2 141 (by decide +kernel) rfl
def m_X9_isTakenByOther : zM := (RX9, ⟨RX9, "isTakenByOther", "(II)Z"⟩, prog_11_method_9_code, 4, (some FieldType.boolean))
set_option maxRecDepth 100000 in
theorem k_X9_isTakenByOther : zMk m_X9_isTakenByOther 2 := ⟨z_i2 210 rfl rfl, z_i1 2 (by decide +kernel) rfl, by decide +kernel, ⟨by decide +kernel, by decide +kernel⟩, by decide +kernel, rfl⟩
theorem ki_X9_isTakenByOther : Cond.instanceMethod (zmy m_X9_isTakenByOther) ∈ zWT := z_i2 208 (by decide +kernel) rfl
theorem ks_X9_isTakenByOther : Cond.selects (zmy m_X9_isTakenByOther).cls (zmy m_X9_isTakenByOther) (zmy m_X9_isTakenByOther) ∈ zWT := z_i2 209 (by decide +kernel) rfl
def m_X9_addStar : zM := (RX9, ⟨RX9, "addStar", "(III)I"⟩, prog_11_method_10_code, 5, (some FieldType.int))
set_option maxRecDepth 100000 in
theorem k_X9_addStar : zMk m_X9_addStar 3 := ⟨z_i2 130 rfl rfl, z_i1 2 (by decide +kernel) rfl, by decide +kernel, ⟨by decide +kernel, by decide +kernel⟩, by decide +kernel, rfl⟩
theorem ki_X9_addStar : Cond.instanceMethod (zmy m_X9_addStar) ∈ zWT := z_i2 128 (by decide +kernel) rfl
theorem ks_X9_addStar : Cond.selects (zmy m_X9_addStar).cls (zmy m_X9_addStar) (zmy m_X9_addStar) ∈ zWT := z_i2 129 (by decide +kernel) rfl
def m_X9_addThrower : zM := (RX9, ⟨RX9, "addThrower", "(I)I"⟩, prog_11_method_11_code, 3, (some FieldType.int))
set_option maxRecDepth 100000 in
theorem k_X9_addThrower : zMk m_X9_addThrower 1 := ⟨z_i2 191 rfl rfl, z_i1 2 (by decide +kernel) rfl, by decide +kernel, ⟨by decide +kernel, by decide +kernel⟩, by decide +kernel, rfl⟩
theorem ki_X9_addThrower : Cond.instanceMethod (zmy m_X9_addThrower) ∈ zWT := z_i2 189 (by decide +kernel) rfl
theorem ks_X9_addThrower : Cond.selects (zmy m_X9_addThrower).cls (zmy m_X9_addThrower) (zmy m_X9_addThrower) ∈ zWT := z_i2 190 (by decide +kernel) rfl
def m_X9_addShip : zM := (RX9, ⟨RX9, "addShip", "(I)I"⟩, prog_11_method_12_code, 3, (some FieldType.int))
set_option maxRecDepth 100000 in
theorem k_X9_addShip : zMk m_X9_addShip 1 := ⟨z_i2 199 rfl rfl, z_i1 2 (by decide +kernel) rfl, by decide +kernel, ⟨by decide +kernel, by decide +kernel⟩, by decide +kernel, rfl⟩
theorem ki_X9_addShip : Cond.instanceMethod (zmy m_X9_addShip) ∈ zWT := z_i2 197 (by decide +kernel) rfl
theorem ks_X9_addShip : Cond.selects (zmy m_X9_addShip).cls (zmy m_X9_addShip) (zmy m_X9_addShip) ∈ zWT := z_i2 198 (by decide +kernel) rfl
def m_X9_bits : zM := (RX9, ⟨RX9, "bits", "(I)I"⟩, prog_11_method_13_code, 4, (some FieldType.int))
set_option maxRecDepth 100000 in
theorem k_X9_bits : zMk m_X9_bits 1 := ⟨z_i3 122 rfl rfl, z_i1 2 (by decide +kernel) rfl, by decide +kernel, ⟨by decide +kernel, by decide +kernel⟩, by decide +kernel, rfl⟩
theorem ki_X9_bits : Cond.instanceMethod (zmy m_X9_bits) ∈ zWT := z_i3 120 (by decide +kernel) rfl
theorem ks_X9_bits : Cond.selects (zmy m_X9_bits).cls (zmy m_X9_bits) (zmy m_X9_bits) ∈ zWT := z_i3 121 (by decide +kernel) rfl
def m_X9_atHand : zM := (RX9, ⟨RX9, "atHand", "()I"⟩, prog_11_method_14_code, 1, (some FieldType.int))
set_option maxRecDepth 100000 in
theorem k_X9_atHand : zMk m_X9_atHand 0 := ⟨z_i3 157 rfl rfl, z_i1 2 (by decide +kernel) rfl, by decide +kernel, ⟨by decide +kernel, by decide +kernel⟩, by decide +kernel, rfl⟩
theorem ki_X9_atHand : Cond.instanceMethod (zmy m_X9_atHand) ∈ zWT := z_i3 155 (by decide +kernel) rfl
theorem ks_X9_atHand : Cond.selects (zmy m_X9_atHand).cls (zmy m_X9_atHand) (zmy m_X9_atHand) ∈ zWT := z_i3 156 (by decide +kernel) rfl
def m_X9_waiting : zM := (RX9, ⟨RX9, "waiting", "()I"⟩, prog_11_method_15_code, 1, (some FieldType.int))
set_option maxRecDepth 100000 in
theorem k_X9_waiting : zMk m_X9_waiting 0 := ⟨z_i3 153 rfl rfl, z_i1 2 (by decide +kernel) rfl, by decide +kernel, ⟨by decide +kernel, by decide +kernel⟩, by decide +kernel, rfl⟩
theorem ki_X9_waiting : Cond.instanceMethod (zmy m_X9_waiting) ∈ zWT := z_i3 151 (by decide +kernel) rfl
theorem ks_X9_waiting : Cond.selects (zmy m_X9_waiting).cls (zmy m_X9_waiting) (zmy m_X9_waiting) ∈ zWT := z_i3 152 (by decide +kernel) rfl
def m_X9_dropMinute : zM := (RX9, ⟨RX9, "dropMinute", "(I)I"⟩, prog_11_method_16_code, 3, (some FieldType.int))
set_option maxRecDepth 100000 in
theorem k_X9_dropMinute : zMk m_X9_dropMinute 1 := ⟨z_i3 184 rfl rfl, z_i1 2 (by decide +kernel) rfl, by decide +kernel, ⟨by decide +kernel, by decide +kernel⟩, by decide +kernel, rfl⟩
theorem ki_X9_dropMinute : Cond.instanceMethod (zmy m_X9_dropMinute) ∈ zWT := z_i3 182 (by decide +kernel) rfl
theorem ks_X9_dropMinute : Cond.selects (zmy m_X9_dropMinute).cls (zmy m_X9_dropMinute) (zmy m_X9_dropMinute) ∈ zWT := z_i3 183 (by decide +kernel) rfl
def m_X9_firstToDrop : zM := (RX9, ⟨RX9, "firstToDrop", "()I"⟩, prog_11_method_17_code, 4, (some FieldType.int))
set_option maxRecDepth 100000 in
theorem k_X9_firstToDrop : zMk m_X9_firstToDrop 0 := ⟨z_i3 193 rfl rfl, z_i1 2 (by decide +kernel) rfl, by decide +kernel, ⟨by decide +kernel, by decide +kernel⟩, by decide +kernel, rfl⟩
theorem ki_X9_firstToDrop : Cond.instanceMethod (zmy m_X9_firstToDrop) ∈ zWT := z_i3 191 (by decide +kernel) rfl
theorem ks_X9_firstToDrop : Cond.selects (zmy m_X9_firstToDrop).cls (zmy m_X9_firstToDrop) (zmy m_X9_firstToDrop) ∈ zWT := z_i3 192 (by decide +kernel) rfl
def m_X9_upAfter : zM := (RX9, ⟨RX9, "upAfter", "(I)I"⟩, prog_11_method_18_code, 4, (some FieldType.int))
set_option maxRecDepth 100000 in
theorem k_X9_upAfter : zMk m_X9_upAfter 1 := ⟨z_i3 198 rfl rfl, z_i1 2 (by decide +kernel) rfl, by decide +kernel, ⟨by decide +kernel, by decide +kernel⟩, by decide +kernel, rfl⟩
theorem ki_X9_upAfter : Cond.instanceMethod (zmy m_X9_upAfter) ∈ zWT := z_i3 196 (by decide +kernel) rfl
theorem ks_X9_upAfter : Cond.selects (zmy m_X9_upAfter).cls (zmy m_X9_upAfter) (zmy m_X9_upAfter) ∈ zWT := z_i3 197 (by decide +kernel) rfl
def m_X9_placeOnSand : zM := (RX9, ⟨RX9, "placeOnSand", "(I)I"⟩, prog_11_method_19_code, 2, (some FieldType.int))
set_option maxRecDepth 100000 in
theorem k_X9_placeOnSand : zMk m_X9_placeOnSand 1 := ⟨z_i3 206 rfl rfl, z_i1 2 (by decide +kernel) rfl, by decide +kernel, ⟨by decide +kernel, by decide +kernel⟩, by decide +kernel, rfl⟩
theorem ki_X9_placeOnSand : Cond.instanceMethod (zmy m_X9_placeOnSand) ∈ zWT := z_i3 204 (by decide +kernel) rfl
theorem ks_X9_placeOnSand : Cond.selects (zmy m_X9_placeOnSand).cls (zmy m_X9_placeOnSand) (zmy m_X9_placeOnSand) ∈ zWT := z_i3 205 (by decide +kernel) rfl
def m_X9_goOn : zM := (RX9, ⟨RX9, "goOn", "(I)V"⟩, prog_11_method_20_code, 2, none)
set_option maxRecDepth 100000 in
theorem k_X9_goOn : zMk m_X9_goOn 1 := ⟨z_i4 94 rfl rfl, z_i1 2 (by decide +kernel) rfl, by decide +kernel, ⟨by decide +kernel, by decide +kernel⟩, by decide +kernel, rfl⟩
theorem ki_X9_goOn : Cond.instanceMethod (zmy m_X9_goOn) ∈ zWT := z_i4 92 (by decide +kernel) rfl
theorem ks_X9_goOn : Cond.selects (zmy m_X9_goOn).cls (zmy m_X9_goOn) (zmy m_X9_goOn) ∈ zWT := z_i4 93 (by decide +kernel) rfl
def m_X9_dropDue : zM := (RX9, ⟨RX9, "dropDue", "()I"⟩, prog_11_method_21_code, 3, (some FieldType.int))
set_option maxRecDepth 100000 in
theorem k_X9_dropDue : zMk m_X9_dropDue 0 := ⟨z_i4 103 rfl rfl, z_i1 2 (by decide +kernel) rfl, by decide +kernel, ⟨by decide +kernel, by decide +kernel⟩, by decide +kernel, rfl⟩
theorem ki_X9_dropDue : Cond.instanceMethod (zmy m_X9_dropDue) ∈ zWT := z_i4 101 (by decide +kernel) rfl
theorem ks_X9_dropDue : Cond.selects (zmy m_X9_dropDue).cls (zmy m_X9_dropDue) (zmy m_X9_dropDue) ∈ zWT := z_i4 102 (by decide +kernel) rfl
def m_X10_init : zM := (RX10, ⟨RX10, "<init>", "()V"⟩, prog_12_method_1_code, 1, none)
set_option maxRecDepth 100000 in
theorem k_X10_init : zMk m_X10_init 0 := ⟨z_i1 186 rfl rfl, z_i1 7 (by decide +kernel) rfl, by decide +kernel, ⟨by decide +kernel, by decide +kernel⟩, by decide +kernel, rfl⟩
theorem ki_X10_init : Cond.instanceMethod (zmy m_X10_init) ∈ zWT := z_i1 185 (by decide +kernel) rfl
def m_X10_add : zM := (RX10, ⟨RX10, "add", "(I)I"⟩, prog_12_method_2_code, 2, (some FieldType.int))
set_option maxRecDepth 100000 in
theorem k_X10_add : zMk m_X10_add 1 := ⟨z_i2 239 rfl rfl, z_i1 7 (by decide +kernel) rfl, by decide +kernel, ⟨by decide +kernel, by decide +kernel⟩, by decide +kernel, rfl⟩
theorem ki_X10_add : Cond.instanceMethod (zmy m_X10_add) ∈ zWT := z_i2 237 (by decide +kernel) rfl
theorem ks_X10_add : Cond.selects (zmy m_X10_add).cls (zmy m_X10_add) (zmy m_X10_add) ∈ zWT := z_i2 238 (by decide +kernel) rfl
def m_X10_clear : zM := (RX10, ⟨RX10, "clear", "()V"⟩, prog_12_method_3_code, 1, none)
set_option maxRecDepth 100000 in
theorem k_X10_clear : zMk m_X10_clear 0 := ⟨z_i3 64 rfl rfl, z_i1 7 (by decide +kernel) rfl, by decide +kernel, ⟨by decide +kernel, by decide +kernel⟩, by decide +kernel, rfl⟩
theorem ki_X10_clear : Cond.instanceMethod (zmy m_X10_clear) ∈ zWT := z_i3 62 (by decide +kernel) rfl
theorem ks_X10_clear : Cond.selects (zmy m_X10_clear).cls (zmy m_X10_clear) (zmy m_X10_clear) ∈ zWT := z_i3 63 (by decide +kernel) rfl
def m_X10_faultInto : zM := (RX10, ⟨RX10, "faultInto", "(LStarfishWatch$Law;)I"⟩, prog_12_method_4_code, 4, (some FieldType.int))
set_option maxRecDepth 100000 in
theorem k_X10_faultInto : zMk m_X10_faultInto 1 := ⟨z_i3 7 rfl rfl, z_i1 7 (by decide +kernel) rfl, by decide +kernel, ⟨by decide +kernel, by decide +kernel⟩, by decide +kernel, rfl⟩
theorem ki_X10_faultInto : Cond.instanceMethod (zmy m_X10_faultInto) ∈ zWT := z_i3 5 (by decide +kernel) rfl
theorem ks_X10_faultInto : Cond.selects (zmy m_X10_faultInto).cls (zmy m_X10_faultInto) (zmy m_X10_faultInto) ∈ zWT := z_i3 6 (by decide +kernel) rfl
def m_X10_here : zM := (RX10, ⟨RX10, "here", "()I"⟩, prog_12_method_5_code, 1, (some FieldType.int))
set_option maxRecDepth 100000 in
theorem k_X10_here : zMk m_X10_here 0 := ⟨z_i3 31 rfl rfl, z_i1 7 (by decide +kernel) rfl, by decide +kernel, ⟨by decide +kernel, by decide +kernel⟩, by decide +kernel, rfl⟩
theorem ki_X10_here : Cond.instanceMethod (zmy m_X10_here) ∈ zWT := z_i3 30 (by decide +kernel) rfl
theorem ks_X10_here : Cond.selects (zmy m_X10_here).cls (zmy m_X10_here) (zmy m_X10_here) ∈ zWT := z_in 7 (by decide +kernel) rfl
def m_X10_readLine : zM := (RX10, ⟨RX10, "readLine", "()Z"⟩, prog_12_method_6_code, 2, (some FieldType.boolean))
set_option maxRecDepth 100000 in
theorem k_X10_readLine : zMk m_X10_readLine 0 := ⟨z_i3 15 rfl rfl, z_i1 7 (by decide +kernel) rfl, by decide +kernel, ⟨by decide +kernel, by decide +kernel⟩, by decide +kernel, rfl⟩
theorem ki_X10_readLine : Cond.instanceMethod (zmy m_X10_readLine) ∈ zWT := z_i3 14 (by decide +kernel) rfl
theorem ks_X10_readLine : Cond.selects (zmy m_X10_readLine).cls (zmy m_X10_readLine) (zmy m_X10_readLine) ∈ zWT := z_in 3 (by decide +kernel) rfl
def m_X10_readJoined : zM := (RX10, ⟨RX10, "readJoined", "(II)Z"⟩, prog_12_method_7_code, 6, (some FieldType.boolean))
set_option maxRecDepth 100000 in
theorem k_X10_readJoined : zMk m_X10_readJoined 2 := ⟨z_i3 19 rfl rfl, z_i1 7 (by decide +kernel) rfl, by decide +kernel, ⟨by decide +kernel, by decide +kernel⟩, by decide +kernel, rfl⟩
theorem ki_X10_readJoined : Cond.instanceMethod (zmy m_X10_readJoined) ∈ zWT := z_i3 18 (by decide +kernel) rfl
theorem ks_X10_readJoined : Cond.selects (zmy m_X10_readJoined).cls (zmy m_X10_readJoined) (zmy m_X10_readJoined) ∈ zWT := z_in 4 (by decide +kernel) rfl
def m_X10_readPart : zM := (RX10, ⟨RX10, "readPart", "(II)Z"⟩, prog_12_method_8_code, 3, (some FieldType.boolean))
set_option maxRecDepth 100000 in
theorem k_X10_readPart : zMk m_X10_readPart 2 := ⟨z_i3 23 rfl rfl, z_i1 7 (by decide +kernel) rfl, by decide +kernel, ⟨by decide +kernel, by decide +kernel⟩, by decide +kernel, rfl⟩
theorem ki_X10_readPart : Cond.instanceMethod (zmy m_X10_readPart) ∈ zWT := z_i3 22 (by decide +kernel) rfl
theorem ks_X10_readPart : Cond.selects (zmy m_X10_readPart).cls (zmy m_X10_readPart) (zmy m_X10_readPart) ∈ zWT := z_in 5 (by decide +kernel) rfl
def m_X10_readOperand : zM := (RX10, ⟨RX10, "readOperand", "(I)Z"⟩, prog_12_method_9_code, 4, (some FieldType.boolean))
set_option maxRecDepth 100000 in
theorem k_X10_readOperand : zMk m_X10_readOperand 1 := ⟨z_i3 27 rfl rfl, z_i1 7 (by decide +kernel) rfl, by decide +kernel, ⟨by decide +kernel, by decide +kernel⟩, by decide +kernel, rfl⟩
theorem ki_X10_readOperand : Cond.instanceMethod (zmy m_X10_readOperand) ∈ zWT := z_i3 26 (by decide +kernel) rfl
theorem ks_X10_readOperand : Cond.selects (zmy m_X10_readOperand).cls (zmy m_X10_readOperand) (zmy m_X10_readOperand) ∈ zWT := z_in 6 (by decide +kernel) rfl
def m_X10_readBracketed : zM := (RX10, ⟨RX10, "readBracketed", "(I)Z"⟩, prog_12_method_10_code, 2, (some FieldType.boolean))
set_option maxRecDepth 100000 in
theorem k_X10_readBracketed : zMk m_X10_readBracketed 1 := ⟨z_i3 35 rfl rfl, z_i1 7 (by decide +kernel) rfl, by decide +kernel, ⟨by decide +kernel, by decide +kernel⟩, by decide +kernel, rfl⟩
theorem ki_X10_readBracketed : Cond.instanceMethod (zmy m_X10_readBracketed) ∈ zWT := z_i3 34 (by decide +kernel) rfl
theorem ks_X10_readBracketed : Cond.selects (zmy m_X10_readBracketed).cls (zmy m_X10_readBracketed) (zmy m_X10_readBracketed) ∈ zWT := z_in 8 (by decide +kernel) rfl
def m_X10_readTurned : zM := (RX10, ⟨RX10, "readTurned", "(II)Z"⟩, prog_12_method_11_code, 3, (some FieldType.boolean))
set_option maxRecDepth 100000 in
theorem k_X10_readTurned : zMk m_X10_readTurned 2 := ⟨z_i3 39 rfl rfl, z_i1 7 (by decide +kernel) rfl, by decide +kernel, ⟨by decide +kernel, by decide +kernel⟩, by decide +kernel, rfl⟩
theorem ki_X10_readTurned : Cond.instanceMethod (zmy m_X10_readTurned) ∈ zWT := z_i3 38 (by decide +kernel) rfl
theorem ks_X10_readTurned : Cond.selects (zmy m_X10_readTurned).cls (zmy m_X10_readTurned) (zmy m_X10_readTurned) ∈ zWT := z_in 9 (by decide +kernel) rfl
def m_X10_readNumber : zM := (RX10, ⟨RX10, "readNumber", "()V"⟩, prog_12_method_12_code, 3, none)
set_option maxRecDepth 100000 in
theorem k_X10_readNumber : zMk m_X10_readNumber 0 := ⟨z_i3 50 rfl rfl, z_i1 7 (by decide +kernel) rfl, by decide +kernel, ⟨by decide +kernel, by decide +kernel⟩, by decide +kernel, rfl⟩
theorem ki_X10_readNumber : Cond.instanceMethod (zmy m_X10_readNumber) ∈ zWT := z_i3 49 (by decide +kernel) rfl
theorem ks_X10_readNumber : Cond.selects (zmy m_X10_readNumber).cls (zmy m_X10_readNumber) (zmy m_X10_readNumber) ∈ zWT := z_in 10 (by decide +kernel) rfl
def m_X10_isDigit : zM := (RX10, ⟨RX10, "isDigit", "(I)Z"⟩, prog_12_method_13_code, 1, (some FieldType.boolean))
set_option maxRecDepth 100000 in
theorem k_X10_isDigit : zMk m_X10_isDigit 1 := ⟨z_i3 46 rfl rfl, z_i1 7 (by decide +kernel) rfl, by decide +kernel, ⟨by decide +kernel, by decide +kernel⟩, by decide +kernel, rfl⟩
theorem kt_X10_isDigit : Cond.static (zmy m_X10_isDigit) ∈ zWT := z_i3 45 (by decide +kernel) rfl
def m_X10_tightnessOf : zM := (RX10, ⟨RX10, "tightnessOf", "(I)I"⟩, prog_12_method_14_code, 1, (some FieldType.int))
set_option maxRecDepth 100000 in
theorem k_X10_tightnessOf : zMk m_X10_tightnessOf 1 := ⟨z_i3 56 rfl rfl, z_i1 7 (by decide +kernel) rfl, by decide +kernel, ⟨by decide +kernel, by decide +kernel⟩, by decide +kernel, rfl⟩
theorem kt_X10_tightnessOf : Cond.static (zmy m_X10_tightnessOf) ∈ zWT := z_i3 55 (by decide +kernel) rfl
def m_X10_nameOf : zM := (RX10, ⟨RX10, "nameOf", "(I)I"⟩, prog_12_method_15_code, 1, (some FieldType.int))
set_option maxRecDepth 100000 in
theorem k_X10_nameOf : zMk m_X10_nameOf 1 := ⟨z_i3 53 rfl rfl, z_i1 7 (by decide +kernel) rfl, by decide +kernel, ⟨by decide +kernel, by decide +kernel⟩, by decide +kernel, rfl⟩
theorem kt_X10_nameOf : Cond.static (zmy m_X10_nameOf) ∈ zWT := z_i3 52 (by decide +kernel) rfl
def m_X11_init : zM := (RX11, ⟨RX11, "<init>", "()V"⟩, prog_1_method_1_code, 3, none)
set_option maxRecDepth 100000 in
theorem k_X11_init : zMk m_X11_init 0 := ⟨z_i1 21 rfl rfl, z_i1 1 (by decide +kernel) rfl, by decide +kernel, ⟨by decide +kernel, by decide +kernel⟩, by decide +kernel, rfl⟩
theorem ki_X11_init : Cond.instanceMethod (zmy m_X11_init) ∈ zWT := z_i1 20 (by decide +kernel) rfl
def m_X11_star : zM := (RX11, ⟨RX11, "star", "(I)I"⟩, prog_1_method_2_code, 2, (some FieldType.int))
set_option maxRecDepth 100000 in
theorem k_X11_star : zMk m_X11_star 1 := ⟨z_i2 126 rfl rfl, z_i1 1 (by decide +kernel) rfl, by decide +kernel, ⟨by decide +kernel, by decide +kernel⟩, by decide +kernel, rfl⟩
theorem ki_X11_star : Cond.instanceMethod (zmy m_X11_star) ∈ zWT := z_i2 124 (by decide +kernel) rfl
theorem ks_X11_star : Cond.selects (zmy m_X11_star).cls (zmy m_X11_star) (zmy m_X11_star) ∈ zWT := z_i2 125 (by decide +kernel) rfl
def m_X11_stars : zM := (RX11, ⟨RX11, "stars", "(III)I"⟩, prog_1_method_3_code, 6, (some FieldType.int))
set_option maxRecDepth 100000 in
theorem k_X11_stars : zMk m_X11_stars 3 := ⟨z_i2 158 rfl rfl, z_i1 1 (by decide +kernel) rfl, by decide +kernel, ⟨by decide +kernel, by decide +kernel⟩, by decide +kernel, rfl⟩
theorem ki_X11_stars : Cond.instanceMethod (zmy m_X11_stars) ∈ zWT := z_i2 156 (by decide +kernel) rfl
theorem ks_X11_stars : Cond.selects (zmy m_X11_stars).cls (zmy m_X11_stars) (zmy m_X11_stars) ∈ zWT := z_i2 157 (by decide +kernel) rfl
def m_X11_thrower : zM := (RX11, ⟨RX11, "thrower", "(I)I"⟩, prog_1_method_4_code, 2, (some FieldType.int))
set_option maxRecDepth 100000 in
theorem k_X11_thrower : zMk m_X11_thrower 1 := ⟨z_i2 187 rfl rfl, z_i1 1 (by decide +kernel) rfl, by decide +kernel, ⟨by decide +kernel, by decide +kernel⟩, by decide +kernel, rfl⟩
theorem ki_X11_thrower : Cond.instanceMethod (zmy m_X11_thrower) ∈ zWT := z_i2 185 (by decide +kernel) rfl
theorem ks_X11_thrower : Cond.selects (zmy m_X11_thrower).cls (zmy m_X11_thrower) (zmy m_X11_thrower) ∈ zWT := z_i2 186 (by decide +kernel) rfl
def m_X11_ship : zM := (RX11, ⟨RX11, "ship", "(I)I"⟩, prog_1_method_5_code, 2, (some FieldType.int))
set_option maxRecDepth 100000 in
theorem k_X11_ship : zMk m_X11_ship 1 := ⟨z_i2 195 rfl rfl, z_i1 1 (by decide +kernel) rfl, by decide +kernel, ⟨by decide +kernel, by decide +kernel⟩, by decide +kernel, rfl⟩
theorem ki_X11_ship : Cond.instanceMethod (zmy m_X11_ship) ∈ zWT := z_i2 193 (by decide +kernel) rfl
theorem ks_X11_ship : Cond.selects (zmy m_X11_ship).cls (zmy m_X11_ship) (zmy m_X11_ship) ∈ zWT := z_i2 194 (by decide +kernel) rfl
def m_X11_mend : zM := (RX11, ⟨RX11, "mend", "(III)I"⟩, prog_1_method_6_code, 5, (some FieldType.int))
set_option maxRecDepth 100000 in
theorem k_X11_mend : zMk m_X11_mend 3 := ⟨z_i2 203 rfl rfl, z_i1 1 (by decide +kernel) rfl, by decide +kernel, ⟨by decide +kernel, by decide +kernel⟩, by decide +kernel, rfl⟩
theorem ki_X11_mend : Cond.instanceMethod (zmy m_X11_mend) ∈ zWT := z_i2 201 (by decide +kernel) rfl
theorem ks_X11_mend : Cond.selects (zmy m_X11_mend).cls (zmy m_X11_mend) (zmy m_X11_mend) ∈ zWT := z_i2 202 (by decide +kernel) rfl
def m_X11_of : zM := (RX11, ⟨RX11, "of", "(II)I"⟩, prog_1_method_7_code, 3, (some FieldType.int))
set_option maxRecDepth 100000 in
theorem k_X11_of : zMk m_X11_of 2 := ⟨z_i2 230 rfl rfl, z_i1 1 (by decide +kernel) rfl, by decide +kernel, ⟨by decide +kernel, by decide +kernel⟩, by decide +kernel, rfl⟩
theorem ki_X11_of : Cond.instanceMethod (zmy m_X11_of) ∈ zWT := z_i2 228 (by decide +kernel) rfl
theorem ks_X11_of : Cond.selects (zmy m_X11_of).cls (zmy m_X11_of) (zmy m_X11_of) ∈ zWT := z_i2 229 (by decide +kernel) rfl
def m_X11_feed : zM := (RX11, ⟨RX11, "feed", "(I)I"⟩, prog_1_method_8_code, 2, (some FieldType.int))
set_option maxRecDepth 100000 in
theorem k_X11_feed : zMk m_X11_feed 1 := ⟨z_i2 235 rfl rfl, z_i1 1 (by decide +kernel) rfl, by decide +kernel, ⟨by decide +kernel, by decide +kernel⟩, by decide +kernel, rfl⟩
theorem ki_X11_feed : Cond.instanceMethod (zmy m_X11_feed) ∈ zWT := z_i2 233 (by decide +kernel) rfl
theorem ks_X11_feed : Cond.selects (zmy m_X11_feed).cls (zmy m_X11_feed) (zmy m_X11_feed) ∈ zWT := z_i2 234 (by decide +kernel) rfl
def m_X11_law : zM := (RX11, ⟨RX11, "law", "()I"⟩, prog_1_method_9_code, 3, (some FieldType.int))
set_option maxRecDepth 100000 in
theorem k_X11_law : zMk m_X11_law 0 := ⟨z_i3 3 rfl rfl, z_i1 1 (by decide +kernel) rfl, by decide +kernel, ⟨by decide +kernel, by decide +kernel⟩, by decide +kernel, rfl⟩
theorem ki_X11_law : Cond.instanceMethod (zmy m_X11_law) ∈ zWT := z_i3 1 (by decide +kernel) rfl
theorem ks_X11_law : Cond.selects (zmy m_X11_law).cls (zmy m_X11_law) (zmy m_X11_law) ∈ zWT := z_i3 2 (by decide +kernel) rfl
def m_X11_odds : zM := (RX11, ⟨RX11, "odds", "(I)I"⟩, prog_1_method_10_code, 2, (some FieldType.int))
set_option maxRecDepth 100000 in
theorem k_X11_odds : zMk m_X11_odds 1 := ⟨z_i3 68 rfl rfl, z_i1 1 (by decide +kernel) rfl, by decide +kernel, ⟨by decide +kernel, by decide +kernel⟩, by decide +kernel, rfl⟩
theorem ki_X11_odds : Cond.instanceMethod (zmy m_X11_odds) ∈ zWT := z_i3 66 (by decide +kernel) rfl
theorem ks_X11_odds : Cond.selects (zmy m_X11_odds).cls (zmy m_X11_odds) (zmy m_X11_odds) ∈ zWT := z_i3 67 (by decide +kernel) rfl
def m_X11_flung : zM := (RX11, ⟨RX11, "flung", "(II)I"⟩, prog_1_method_11_code, 4, (some FieldType.int))
set_option maxRecDepth 100000 in
theorem k_X11_flung : zMk m_X11_flung 2 := ⟨z_i3 109 rfl rfl, z_i1 1 (by decide +kernel) rfl, by decide +kernel, ⟨by decide +kernel, by decide +kernel⟩, by decide +kernel, rfl⟩
theorem ki_X11_flung : Cond.instanceMethod (zmy m_X11_flung) ∈ zWT := z_i3 107 (by decide +kernel) rfl
theorem ks_X11_flung : Cond.selects (zmy m_X11_flung).cls (zmy m_X11_flung) (zmy m_X11_flung) ∈ zWT := z_i3 108 (by decide +kernel) rfl
def m_X11_likely : zM := (RX11, ⟨RX11, "likely", "(II)J"⟩, prog_1_method_12_code, 9, (some FieldType.long))
set_option maxRecDepth 100000 in
theorem k_X11_likely : zMk m_X11_likely 2 := ⟨z_i3 133 rfl rfl, z_i1 1 (by decide +kernel) rfl, by decide +kernel, ⟨by decide +kernel, by decide +kernel⟩, by decide +kernel, rfl⟩
theorem ki_X11_likely : Cond.instanceMethod (zmy m_X11_likely) ∈ zWT := z_i3 131 (by decide +kernel) rfl
theorem ks_X11_likely : Cond.selects (zmy m_X11_likely).cls (zmy m_X11_likely) (zmy m_X11_likely) ∈ zWT := z_i3 132 (by decide +kernel) rfl
def m_X11_mean : zM := (RX11, ⟨RX11, "mean", "(II)J"⟩, prog_1_method_13_code, 7, (some FieldType.long))
set_option maxRecDepth 100000 in
theorem k_X11_mean : zMk m_X11_mean 2 := ⟨z_i3 145 rfl rfl, z_i1 1 (by decide +kernel) rfl, by decide +kernel, ⟨by decide +kernel, by decide +kernel⟩, by decide +kernel, rfl⟩
theorem ki_X11_mean : Cond.instanceMethod (zmy m_X11_mean) ∈ zWT := z_i3 143 (by decide +kernel) rfl
theorem ks_X11_mean : Cond.selects (zmy m_X11_mean).cls (zmy m_X11_mean) (zmy m_X11_mean) ∈ zWT := z_i3 144 (by decide +kernel) rfl
def m_X11_dealt : zM := (RX11, ⟨RX11, "dealt", "(I)I"⟩, prog_1_method_14_code, 4, (some FieldType.int))
set_option maxRecDepth 100000 in
theorem k_X11_dealt : zMk m_X11_dealt 1 := ⟨z_i3 149 rfl rfl, z_i1 1 (by decide +kernel) rfl, by decide +kernel, ⟨by decide +kernel, by decide +kernel⟩, by decide +kernel, rfl⟩
theorem ki_X11_dealt : Cond.instanceMethod (zmy m_X11_dealt) ∈ zWT := z_i3 147 (by decide +kernel) rfl
theorem ks_X11_dealt : Cond.selects (zmy m_X11_dealt).cls (zmy m_X11_dealt) (zmy m_X11_dealt) ∈ zWT := z_i3 148 (by decide +kernel) rfl
def m_X11_drops : zM := (RX11, ⟨RX11, "drops", "(I)I"⟩, prog_1_method_15_code, 2, (some FieldType.int))
set_option maxRecDepth 100000 in
theorem k_X11_drops : zMk m_X11_drops 1 := ⟨z_i3 180 rfl rfl, z_i1 1 (by decide +kernel) rfl, by decide +kernel, ⟨by decide +kernel, by decide +kernel⟩, by decide +kernel, rfl⟩
theorem ki_X11_drops : Cond.instanceMethod (zmy m_X11_drops) ∈ zWT := z_i3 178 (by decide +kernel) rfl
theorem ks_X11_drops : Cond.selects (zmy m_X11_drops).cls (zmy m_X11_drops) (zmy m_X11_drops) ∈ zWT := z_i3 179 (by decide +kernel) rfl
def m_X11_upBy : zM := (RX11, ⟨RX11, "upBy", "(I)I"⟩, prog_1_method_16_code, 2, (some FieldType.int))
set_option maxRecDepth 100000 in
theorem k_X11_upBy : zMk m_X11_upBy 1 := ⟨z_i3 189 rfl rfl, z_i1 1 (by decide +kernel) rfl, by decide +kernel, ⟨by decide +kernel, by decide +kernel⟩, by decide +kernel, rfl⟩
theorem ki_X11_upBy : Cond.instanceMethod (zmy m_X11_upBy) ∈ zWT := z_i3 187 (by decide +kernel) rfl
theorem ks_X11_upBy : Cond.selects (zmy m_X11_upBy).cls (zmy m_X11_upBy) (zmy m_X11_upBy) ∈ zWT := z_i3 188 (by decide +kernel) rfl
def m_X11_lies : zM := (RX11, ⟨RX11, "lies", "(I)I"⟩, prog_1_method_17_code, 2, (some FieldType.int))
set_option maxRecDepth 100000 in
theorem k_X11_lies : zMk m_X11_lies 1 := ⟨z_i3 202 rfl rfl, z_i1 1 (by decide +kernel) rfl, by decide +kernel, ⟨by decide +kernel, by decide +kernel⟩, by decide +kernel, rfl⟩
theorem ki_X11_lies : Cond.instanceMethod (zmy m_X11_lies) ∈ zWT := z_i3 200 (by decide +kernel) rfl
theorem ks_X11_lies : Cond.selects (zmy m_X11_lies).cls (zmy m_X11_lies) (zmy m_X11_lies) ∈ zWT := z_i3 201 (by decide +kernel) rfl
def m_X11_walk : zM := (RX11, ⟨RX11, "walk", "(III)I"⟩, prog_1_method_18_code, 4, (some FieldType.int))
set_option maxRecDepth 100000 in
theorem k_X11_walk : zMk m_X11_walk 3 := ⟨z_i3 210 rfl rfl, z_i1 1 (by decide +kernel) rfl, by decide +kernel, ⟨by decide +kernel, by decide +kernel⟩, by decide +kernel, rfl⟩
theorem ki_X11_walk : Cond.instanceMethod (zmy m_X11_walk) ∈ zWT := z_i3 208 (by decide +kernel) rfl
theorem ks_X11_walk : Cond.selects (zmy m_X11_walk).cls (zmy m_X11_walk) (zmy m_X11_walk) ∈ zWT := z_i3 209 (by decide +kernel) rfl
def m_X11_steer : zM := (RX11, ⟨RX11, "steer", "()I"⟩, prog_1_method_19_code, 1, (some FieldType.int))
set_option maxRecDepth 100000 in
theorem k_X11_steer : zMk m_X11_steer 0 := ⟨z_i3 232 rfl rfl, z_i1 1 (by decide +kernel) rfl, by decide +kernel, ⟨by decide +kernel, by decide +kernel⟩, by decide +kernel, rfl⟩
theorem ki_X11_steer : Cond.instanceMethod (zmy m_X11_steer) ∈ zWT := z_i3 230 (by decide +kernel) rfl
theorem ks_X11_steer : Cond.selects (zmy m_X11_steer).cls (zmy m_X11_steer) (zmy m_X11_steer) ∈ zWT := z_i3 231 (by decide +kernel) rfl
def m_X11_fewest : zM := (RX11, ⟨RX11, "fewest", "(I)I"⟩, prog_1_method_20_code, 4, (some FieldType.int))
set_option maxRecDepth 100000 in
theorem k_X11_fewest : zMk m_X11_fewest 1 := ⟨z_i4 1 rfl rfl, z_i1 1 (by decide +kernel) rfl, by decide +kernel, ⟨by decide +kernel, by decide +kernel⟩, by decide +kernel, rfl⟩
theorem ki_X11_fewest : Cond.instanceMethod (zmy m_X11_fewest) ∈ zWT := z_i3 239 (by decide +kernel) rfl
theorem ks_X11_fewest : Cond.selects (zmy m_X11_fewest).cls (zmy m_X11_fewest) (zmy m_X11_fewest) ∈ zWT := z_i4 0 (by decide +kernel) rfl
def m_X11_home : zM := (RX11, ⟨RX11, "home", "(II)I"⟩, prog_1_method_21_code, 4, (some FieldType.int))
set_option maxRecDepth 100000 in
theorem k_X11_home : zMk m_X11_home 2 := ⟨z_i4 15 rfl rfl, z_i1 1 (by decide +kernel) rfl, by decide +kernel, ⟨by decide +kernel, by decide +kernel⟩, by decide +kernel, rfl⟩
theorem ki_X11_home : Cond.instanceMethod (zmy m_X11_home) ∈ zWT := z_i4 13 (by decide +kernel) rfl
theorem ks_X11_home : Cond.selects (zmy m_X11_home).cls (zmy m_X11_home) (zmy m_X11_home) ∈ zWT := z_i4 14 (by decide +kernel) rfl
def m_X11_pattern : zM := (RX11, ⟨RX11, "pattern", "(II)I"⟩, prog_1_method_22_code, 4, (some FieldType.int))
set_option maxRecDepth 100000 in
theorem k_X11_pattern : zMk m_X11_pattern 2 := ⟨z_i4 35 rfl rfl, z_i1 1 (by decide +kernel) rfl, by decide +kernel, ⟨by decide +kernel, by decide +kernel⟩, by decide +kernel, rfl⟩
theorem ki_X11_pattern : Cond.instanceMethod (zmy m_X11_pattern) ∈ zWT := z_i4 33 (by decide +kernel) rfl
theorem ks_X11_pattern : Cond.selects (zmy m_X11_pattern).cls (zmy m_X11_pattern) (zmy m_X11_pattern) ∈ zWT := z_i4 34 (by decide +kernel) rfl
def m_X11_byTurns : zM := (RX11, ⟨RX11, "byTurns", "(II)I"⟩, prog_1_method_23_code, 3, (some FieldType.int))
set_option maxRecDepth 100000 in
theorem k_X11_byTurns : zMk m_X11_byTurns 2 := ⟨z_i4 54 rfl rfl, z_i1 1 (by decide +kernel) rfl, by decide +kernel, ⟨by decide +kernel, by decide +kernel⟩, by decide +kernel, rfl⟩
theorem ki_X11_byTurns : Cond.instanceMethod (zmy m_X11_byTurns) ∈ zWT := z_i4 52 (by decide +kernel) rfl
theorem ks_X11_byTurns : Cond.selects (zmy m_X11_byTurns).cls (zmy m_X11_byTurns) (zmy m_X11_byTurns) ∈ zWT := z_i4 53 (by decide +kernel) rfl
def m_X11_drawn : zM := (RX11, ⟨RX11, "drawn", "(IIII)I"⟩, prog_1_method_24_code, 9, (some FieldType.int))
set_option maxRecDepth 100000 in
theorem k_X11_drawn : zMk m_X11_drawn 4 := ⟨z_i4 73 rfl rfl, z_i1 1 (by decide +kernel) rfl, by decide +kernel, ⟨by decide +kernel, by decide +kernel⟩, by decide +kernel, rfl⟩
theorem ki_X11_drawn : Cond.instanceMethod (zmy m_X11_drawn) ∈ zWT := z_i4 71 (by decide +kernel) rfl
theorem ks_X11_drawn : Cond.selects (zmy m_X11_drawn).cls (zmy m_X11_drawn) (zmy m_X11_drawn) ∈ zWT := z_i4 72 (by decide +kernel) rfl
def m_X11_fling : zM := (RX11, ⟨RX11, "fling", "(I)I"⟩, prog_1_method_25_code, 7, (some FieldType.int))
set_option maxRecDepth 100000 in
theorem k_X11_fling : zMk m_X11_fling 1 := ⟨z_i4 88 rfl rfl, z_i1 1 (by decide +kernel) rfl, by decide +kernel, ⟨by decide +kernel, by decide +kernel⟩, by decide +kernel, rfl⟩
theorem ki_X11_fling : Cond.instanceMethod (zmy m_X11_fling) ∈ zWT := z_i4 86 (by decide +kernel) rfl
theorem ks_X11_fling : Cond.selects (zmy m_X11_fling).cls (zmy m_X11_fling) (zmy m_X11_fling) ∈ zWT := z_i4 87 (by decide +kernel) rfl
def m_X11_pass : zM := (RX11, ⟨RX11, "pass", "(I)I"⟩, prog_1_method_26_code, 2, (some FieldType.int))
set_option maxRecDepth 100000 in
theorem k_X11_pass : zMk m_X11_pass 1 := ⟨z_i4 99 rfl rfl, z_i1 1 (by decide +kernel) rfl, by decide +kernel, ⟨by decide +kernel, by decide +kernel⟩, by decide +kernel, rfl⟩
theorem ki_X11_pass : Cond.instanceMethod (zmy m_X11_pass) ∈ zWT := z_i4 97 (by decide +kernel) rfl
theorem ks_X11_pass : Cond.selects (zmy m_X11_pass).cls (zmy m_X11_pass) (zmy m_X11_pass) ∈ zWT := z_i4 98 (by decide +kernel) rfl
def m_X11_pocket : zM := (RX11, ⟨RX11, "pocket", "(I)I"⟩, prog_1_method_27_code, 3, (some FieldType.int))
set_option maxRecDepth 100000 in
theorem k_X11_pocket : zMk m_X11_pocket 1 := ⟨z_i4 109 rfl rfl, z_i1 1 (by decide +kernel) rfl, by decide +kernel, ⟨by decide +kernel, by decide +kernel⟩, by decide +kernel, rfl⟩
theorem ki_X11_pocket : Cond.instanceMethod (zmy m_X11_pocket) ∈ zWT := z_i4 107 (by decide +kernel) rfl
theorem ks_X11_pocket : Cond.selects (zmy m_X11_pocket).cls (zmy m_X11_pocket) (zmy m_X11_pocket) ∈ zWT := z_i4 108 (by decide +kernel) rfl
def m_X11_led : zM := (RX11, ⟨RX11, "led", "(I)I"⟩, prog_1_method_28_code, 2, (some FieldType.int))
set_option maxRecDepth 100000 in
theorem k_X11_led : zMk m_X11_led 1 := ⟨z_i4 113 rfl rfl, z_i1 1 (by decide +kernel) rfl, by decide +kernel, ⟨by decide +kernel, by decide +kernel⟩, by decide +kernel, rfl⟩
theorem ki_X11_led : Cond.instanceMethod (zmy m_X11_led) ∈ zWT := z_i4 111 (by decide +kernel) rfl
theorem ks_X11_led : Cond.selects (zmy m_X11_led).cls (zmy m_X11_led) (zmy m_X11_led) ∈ zWT := z_i4 112 (by decide +kernel) rfl
def m_X11_image : zM := (RX11, ⟨RX11, "image", "()I"⟩, prog_1_method_29_code, 1, (some FieldType.int))
set_option maxRecDepth 100000 in
theorem k_X11_image : zMk m_X11_image 0 := ⟨z_i4 117 rfl rfl, z_i1 1 (by decide +kernel) rfl, by decide +kernel, ⟨by decide +kernel, by decide +kernel⟩, by decide +kernel, rfl⟩
theorem ki_X11_image : Cond.instanceMethod (zmy m_X11_image) ∈ zWT := z_i4 115 (by decide +kernel) rfl
theorem ks_X11_image : Cond.selects (zmy m_X11_image).cls (zmy m_X11_image) (zmy m_X11_image) ∈ zWT := z_i4 116 (by decide +kernel) rfl
def m_X11_back : zM := (RX11, ⟨RX11, "back", "()I"⟩, prog_1_method_30_code, 1, (some FieldType.int))
set_option maxRecDepth 100000 in
theorem k_X11_back : zMk m_X11_back 0 := ⟨z_i4 128 rfl rfl, z_i1 1 (by decide +kernel) rfl, by decide +kernel, ⟨by decide +kernel, by decide +kernel⟩, by decide +kernel, rfl⟩
theorem ki_X11_back : Cond.instanceMethod (zmy m_X11_back) ∈ zWT := z_i4 126 (by decide +kernel) rfl
theorem ks_X11_back : Cond.selects (zmy m_X11_back).cls (zmy m_X11_back) (zmy m_X11_back) ∈ zWT := z_i4 127 (by decide +kernel) rfl
def m_X11_undo : zM := (RX11, ⟨RX11, "undo", "()I"⟩, prog_1_method_31_code, 1, (some FieldType.int))
set_option maxRecDepth 100000 in
theorem k_X11_undo : zMk m_X11_undo 0 := ⟨z_i4 137 rfl rfl, z_i1 1 (by decide +kernel) rfl, by decide +kernel, ⟨by decide +kernel, by decide +kernel⟩, by decide +kernel, rfl⟩
theorem ki_X11_undo : Cond.instanceMethod (zmy m_X11_undo) ∈ zWT := z_i4 135 (by decide +kernel) rfl
theorem ks_X11_undo : Cond.selects (zmy m_X11_undo).cls (zmy m_X11_undo) (zmy m_X11_undo) ∈ zWT := z_i4 136 (by decide +kernel) rfl
def m_X11_redo : zM := (RX11, ⟨RX11, "redo", "()I"⟩, prog_1_method_32_code, 1, (some FieldType.int))
set_option maxRecDepth 100000 in
theorem k_X11_redo : zMk m_X11_redo 0 := ⟨z_i4 151 rfl rfl, z_i1 1 (by decide +kernel) rfl, by decide +kernel, ⟨by decide +kernel, by decide +kernel⟩, by decide +kernel, rfl⟩
theorem ki_X11_redo : Cond.instanceMethod (zmy m_X11_redo) ∈ zWT := z_i4 149 (by decide +kernel) rfl
theorem ks_X11_redo : Cond.selects (zmy m_X11_redo).cls (zmy m_X11_redo) (zmy m_X11_redo) ∈ zWT := z_i4 150 (by decide +kernel) rfl
def m_X11_body : zM := (RX11, ⟨RX11, "body", "(I)I"⟩, prog_1_method_33_code, 2, (some FieldType.int))
set_option maxRecDepth 100000 in
theorem k_X11_body : zMk m_X11_body 1 := ⟨z_i4 159 rfl rfl, z_i1 1 (by decide +kernel) rfl, by decide +kernel, ⟨by decide +kernel, by decide +kernel⟩, by decide +kernel, rfl⟩
theorem ki_X11_body : Cond.instanceMethod (zmy m_X11_body) ∈ zWT := z_i4 157 (by decide +kernel) rfl
theorem ks_X11_body : Cond.selects (zmy m_X11_body).cls (zmy m_X11_body) (zmy m_X11_body) ∈ zWT := z_i4 158 (by decide +kernel) rfl
def m_X11_act : zM := (RX11, ⟨RX11, "act", "(III)I"⟩, prog_1_method_34_code, 4, (some FieldType.int))
set_option maxRecDepth 100000 in
theorem k_X11_act : zMk m_X11_act 3 := ⟨z_i4 167 rfl rfl, z_i1 1 (by decide +kernel) rfl, by decide +kernel, ⟨by decide +kernel, by decide +kernel⟩, by decide +kernel, rfl⟩
theorem ki_X11_act : Cond.instanceMethod (zmy m_X11_act) ∈ zWT := z_i4 165 (by decide +kernel) rfl
theorem ks_X11_act : Cond.selects (zmy m_X11_act).cls (zmy m_X11_act) (zmy m_X11_act) ∈ zWT := z_i4 166 (by decide +kernel) rfl
def m_X11_trace : zM := (RX11, ⟨RX11, "trace", "(I)I"⟩, prog_1_method_35_code, 2, (some FieldType.int))
set_option maxRecDepth 100000 in
theorem k_X11_trace : zMk m_X11_trace 1 := ⟨z_i4 205 rfl rfl, z_i1 1 (by decide +kernel) rfl, by decide +kernel, ⟨by decide +kernel, by decide +kernel⟩, by decide +kernel, rfl⟩
theorem ki_X11_trace : Cond.instanceMethod (zmy m_X11_trace) ∈ zWT := z_i4 203 (by decide +kernel) rfl
theorem ks_X11_trace : Cond.selects (zmy m_X11_trace).cls (zmy m_X11_trace) (zmy m_X11_trace) ∈ zWT := z_i4 204 (by decide +kernel) rfl
def m_X11_keep : zM := (RX11, ⟨RX11, "keep", "(II)I"⟩, prog_1_method_36_code, 4, (some FieldType.int))
set_option maxRecDepth 100000 in
theorem k_X11_keep : zMk m_X11_keep 2 := ⟨z_i4 214 rfl rfl, z_i1 1 (by decide +kernel) rfl, by decide +kernel, ⟨by decide +kernel, by decide +kernel⟩, by decide +kernel, rfl⟩
theorem ki_X11_keep : Cond.instanceMethod (zmy m_X11_keep) ∈ zWT := z_i4 212 (by decide +kernel) rfl
theorem ks_X11_keep : Cond.selects (zmy m_X11_keep).cls (zmy m_X11_keep) (zmy m_X11_keep) ∈ zWT := z_i4 213 (by decide +kernel) rfl
def m_X11_row : zM := (RX11, ⟨RX11, "row", "(III)I"⟩, prog_1_method_37_code, 5, (some FieldType.int))
set_option maxRecDepth 100000 in
theorem k_X11_row : zMk m_X11_row 3 := ⟨z_i4 226 rfl rfl, z_i1 1 (by decide +kernel) rfl, by decide +kernel, ⟨by decide +kernel, by decide +kernel⟩, by decide +kernel, rfl⟩
theorem ki_X11_row : Cond.instanceMethod (zmy m_X11_row) ∈ zWT := z_i4 224 (by decide +kernel) rfl
theorem ks_X11_row : Cond.selects (zmy m_X11_row).cls (zmy m_X11_row) (zmy m_X11_row) ∈ zWT := z_i4 225 (by decide +kernel) rfl
def m_X11_put : zM := (RX11, ⟨RX11, "put", "(IIJ)I"⟩, prog_1_method_38_code, 6, (some FieldType.int))
set_option maxRecDepth 100000 in
theorem k_X11_put : zMk m_X11_put 3 := ⟨z_i4 236 rfl rfl, z_i1 1 (by decide +kernel) rfl, by decide +kernel, ⟨by decide +kernel, by decide +kernel⟩, by decide +kernel, rfl⟩
theorem ki_X11_put : Cond.instanceMethod (zmy m_X11_put) ∈ zWT := z_i4 234 (by decide +kernel) rfl
theorem ks_X11_put : Cond.selects (zmy m_X11_put).cls (zmy m_X11_put) (zmy m_X11_put) ∈ zWT := z_i4 235 (by decide +kernel) rfl
def m_X11_element : zM := (RX11, ⟨RX11, "element", "(II)J"⟩, prog_1_method_39_code, 4, (some FieldType.long))
set_option maxRecDepth 100000 in
theorem k_X11_element : zMk m_X11_element 2 := ⟨z_i5 12 rfl rfl, z_i1 1 (by decide +kernel) rfl, by decide +kernel, ⟨by decide +kernel, by decide +kernel⟩, by decide +kernel, rfl⟩
theorem ki_X11_element : Cond.instanceMethod (zmy m_X11_element) ∈ zWT := z_i5 10 (by decide +kernel) rfl
theorem ks_X11_element : Cond.selects (zmy m_X11_element).cls (zmy m_X11_element) (zmy m_X11_element) ∈ zWT := z_i5 11 (by decide +kernel) rfl
def m_X11_shift : zM := (RX11, ⟨RX11, "shift", "(IIIII)I"⟩, prog_1_method_40_code, 8, (some FieldType.int))
set_option maxRecDepth 100000 in
theorem k_X11_shift : zMk m_X11_shift 5 := ⟨z_i5 16 rfl rfl, z_i1 1 (by decide +kernel) rfl, by decide +kernel, ⟨by decide +kernel, by decide +kernel⟩, by decide +kernel, rfl⟩
theorem ki_X11_shift : Cond.instanceMethod (zmy m_X11_shift) ∈ zWT := z_i5 14 (by decide +kernel) rfl
theorem ks_X11_shift : Cond.selects (zmy m_X11_shift).cls (zmy m_X11_shift) (zmy m_X11_shift) ∈ zWT := z_i5 15 (by decide +kernel) rfl
def m_X11_taken : zM := (RX11, ⟨RX11, "taken", "(II)I"⟩, prog_1_method_41_code, 5, (some FieldType.int))
set_option maxRecDepth 100000 in
theorem k_X11_taken : zMk m_X11_taken 2 := ⟨z_i5 25 rfl rfl, z_i1 1 (by decide +kernel) rfl, by decide +kernel, ⟨by decide +kernel, by decide +kernel⟩, by decide +kernel, rfl⟩
theorem ki_X11_taken : Cond.instanceMethod (zmy m_X11_taken) ∈ zWT := z_i5 23 (by decide +kernel) rfl
theorem ks_X11_taken : Cond.selects (zmy m_X11_taken).cls (zmy m_X11_taken) (zmy m_X11_taken) ∈ zWT := z_i5 24 (by decide +kernel) rfl
def m_X11_count : zM := (RX11, ⟨RX11, "count", "(I)I"⟩, prog_1_method_42_code, 2, (some FieldType.int))
set_option maxRecDepth 100000 in
theorem k_X11_count : zMk m_X11_count 1 := ⟨z_i5 37 rfl rfl, z_i1 1 (by decide +kernel) rfl, by decide +kernel, ⟨by decide +kernel, by decide +kernel⟩, by decide +kernel, rfl⟩
theorem ki_X11_count : Cond.instanceMethod (zmy m_X11_count) ∈ zWT := z_i5 35 (by decide +kernel) rfl
theorem ks_X11_count : Cond.selects (zmy m_X11_count).cls (zmy m_X11_count) (zmy m_X11_count) ∈ zWT := z_i5 36 (by decide +kernel) rfl
def m_X11_shelfAt : zM := (RX11, ⟨RX11, "shelfAt", "(I)LStarfishWatch$Shelf;"⟩, prog_1_method_43_code, 2, (some (FieldType.object "StarfishWatch$Shelf")))
set_option maxRecDepth 100000 in
theorem k_X11_shelfAt : zMk m_X11_shelfAt 1 := ⟨z_i2 162 rfl rfl, z_i1 1 (by decide +kernel) rfl, by decide +kernel, ⟨by decide +kernel, by decide +kernel⟩, by decide +kernel, rfl⟩
theorem ki_X11_shelfAt : Cond.instanceMethod (zmy m_X11_shelfAt) ∈ zWT := z_i2 161 (by decide +kernel) rfl
theorem ks_X11_shelfAt : Cond.selects (zmy m_X11_shelfAt).cls (zmy m_X11_shelfAt) (zmy m_X11_shelfAt) ∈ zWT := z_in 0 (by decide +kernel) rfl
def m_X11_starCame : zM := (RX11, ⟨RX11, "starCame", "(LStarfishWatch$Shelf;II)Z"⟩, prog_1_method_44_code, 5, (some FieldType.boolean))
set_option maxRecDepth 100000 in
theorem k_X11_starCame : zMk m_X11_starCame 3 := ⟨z_i2 174 rfl rfl, z_i1 1 (by decide +kernel) rfl, by decide +kernel, ⟨by decide +kernel, by decide +kernel⟩, by decide +kernel, rfl⟩
theorem ki_X11_starCame : Cond.instanceMethod (zmy m_X11_starCame) ∈ zWT := z_i2 173 (by decide +kernel) rfl
theorem ks_X11_starCame : Cond.selects (zmy m_X11_starCame).cls (zmy m_X11_starCame) (zmy m_X11_starCame) ∈ zWT := z_in 1 (by decide +kernel) rfl
def m_X11_oddsNow : zM := (RX11, ⟨RX11, "oddsNow", "(II)I"⟩, prog_1_method_45_code, 3, (some FieldType.int))
set_option maxRecDepth 100000 in
theorem k_X11_oddsNow : zMk m_X11_oddsNow 2 := ⟨z_i3 76 rfl rfl, z_i1 1 (by decide +kernel) rfl, by decide +kernel, ⟨by decide +kernel, by decide +kernel⟩, by decide +kernel, rfl⟩
theorem ki_X11_oddsNow : Cond.instanceMethod (zmy m_X11_oddsNow) ∈ zWT := z_i3 75 (by decide +kernel) rfl
theorem ks_X11_oddsNow : Cond.selects (zmy m_X11_oddsNow).cls (zmy m_X11_oddsNow) (zmy m_X11_oddsNow) ∈ zWT := z_in 11 (by decide +kernel) rfl
def m_X11_partOf : zM := (RX11, ⟨RX11, "partOf", "(JJI)J"⟩, prog_1_method_46_code, 7, (some FieldType.long))
set_option maxRecDepth 100000 in
theorem k_X11_partOf : zMk m_X11_partOf 3 := ⟨z_i3 138 rfl rfl, z_i1 1 (by decide +kernel) rfl, by decide +kernel, ⟨by decide +kernel, by decide +kernel⟩, by decide +kernel, rfl⟩
theorem kt_X11_partOf : Cond.static (zmy m_X11_partOf) ∈ zWT := z_i3 137 (by decide +kernel) rfl
def m_X11_commonDivisor : zM := (RX11, ⟨RX11, "commonDivisor", "(JJ)J"⟩, prog_1_method_47_code, 7, (some FieldType.long))
set_option maxRecDepth 100000 in
theorem k_X11_commonDivisor : zMk m_X11_commonDivisor 2 := ⟨z_i3 141 rfl rfl, z_i1 1 (by decide +kernel) rfl, by decide +kernel, ⟨by decide +kernel, by decide +kernel⟩, by decide +kernel, rfl⟩
theorem kt_X11_commonDivisor : Cond.static (zmy m_X11_commonDivisor) ∈ zWT := z_i3 140 (by decide +kernel) rfl
def m_X11_minutesToDeal : zM := (RX11, ⟨RX11, "minutesToDeal", "(I)I"⟩, prog_1_method_48_code, 6, (some FieldType.int))
set_option maxRecDepth 100000 in
theorem k_X11_minutesToDeal : zMk m_X11_minutesToDeal 1 := ⟨z_i3 168 rfl rfl, z_i1 1 (by decide +kernel) rfl, by decide +kernel, ⟨by decide +kernel, by decide +kernel⟩, by decide +kernel, rfl⟩
theorem ki_X11_minutesToDeal : Cond.instanceMethod (zmy m_X11_minutesToDeal) ∈ zWT := z_i3 167 (by decide +kernel) rfl
theorem ks_X11_minutesToDeal : Cond.selects (zmy m_X11_minutesToDeal).cls (zmy m_X11_minutesToDeal) (zmy m_X11_minutesToDeal) ∈ zWT := z_in 15 (by decide +kernel) rfl
def m_X11_throwerOfDealt : zM := (RX11, ⟨RX11, "throwerOfDealt", "(II)I"⟩, prog_1_method_49_code, 5, (some FieldType.int))
set_option maxRecDepth 100000 in
theorem k_X11_throwerOfDealt : zMk m_X11_throwerOfDealt 2 := ⟨z_i3 176 rfl rfl, z_i1 1 (by decide +kernel) rfl, by decide +kernel, ⟨by decide +kernel, by decide +kernel⟩, by decide +kernel, rfl⟩
theorem ki_X11_throwerOfDealt : Cond.instanceMethod (zmy m_X11_throwerOfDealt) ∈ zWT := z_i3 175 (by decide +kernel) rfl
theorem ks_X11_throwerOfDealt : Cond.selects (zmy m_X11_throwerOfDealt).cls (zmy m_X11_throwerOfDealt) (zmy m_X11_throwerOfDealt) ∈ zWT := z_in 17 (by decide +kernel) rfl
def m_X11_throwsWithin : zM := (RX11, ⟨RX11, "throwsWithin", "(II)I"⟩, prog_1_method_50_code, 4, (some FieldType.int))
set_option maxRecDepth 100000 in
theorem k_X11_throwsWithin : zMk m_X11_throwsWithin 2 := ⟨z_i3 172 rfl rfl, z_i1 1 (by decide +kernel) rfl, by decide +kernel, ⟨by decide +kernel, by decide +kernel⟩, by decide +kernel, rfl⟩
theorem ki_X11_throwsWithin : Cond.instanceMethod (zmy m_X11_throwsWithin) ∈ zWT := z_i3 171 (by decide +kernel) rfl
theorem ks_X11_throwsWithin : Cond.selects (zmy m_X11_throwsWithin).cls (zmy m_X11_throwsWithin) (zmy m_X11_throwsWithin) ∈ zWT := z_in 16 (by decide +kernel) rfl
def m_X12_init : zM := (RX12, ⟨RX12, "<init>", "()V"⟩, prog_14_method_1_code, 1, none)
set_option maxRecDepth 100000 in
theorem k_X12_init : zMk m_X12_init 0 := ⟨z_i5 42 rfl rfl, z_i1 13 (by decide +kernel) rfl, by decide +kernel, ⟨by decide +kernel, by decide +kernel⟩, by decide +kernel, rfl⟩
theorem ki_X12_init : Cond.instanceMethod (zmy m_X12_init) ∈ zWT := z_i5 41 (by decide +kernel) rfl
def m_X12_in : zM := (RX12, ⟨RX12, "in", "(III)Z"⟩, prog_14_method_3_code, 3, (some FieldType.boolean))
set_option maxRecDepth 100000 in
theorem k_X12_in : zMk m_X12_in 3 := ⟨z_i5 226 rfl rfl, z_i1 13 (by decide +kernel) rfl, by decide +kernel, ⟨by decide +kernel, by decide +kernel⟩, by decide +kernel, rfl⟩
theorem kt_X12_in : Cond.static (zmy m_X12_in) ∈ zWT := z_i5 225 (by decide +kernel) rfl
def m_X12_has : zM := (RX12, ⟨RX12, "has", "(II)Z"⟩, prog_14_method_4_code, 2, (some FieldType.boolean))
set_option maxRecDepth 100000 in
theorem k_X12_has : zMk m_X12_has 2 := ⟨z_i7 24 rfl rfl, z_i1 13 (by decide +kernel) rfl, by decide +kernel, ⟨by decide +kernel, by decide +kernel⟩, by decide +kernel, rfl⟩
theorem kt_X12_has : Cond.static (zmy m_X12_has) ∈ zWT := z_i7 23 (by decide +kernel) rfl
def m_X12_bitsOf : zM := (RX12, ⟨RX12, "bitsOf", "(I)I"⟩, prog_14_method_5_code, 3, (some FieldType.int))
set_option maxRecDepth 100000 in
theorem k_X12_bitsOf : zMk m_X12_bitsOf 1 := ⟨z_i6 217 rfl rfl, z_i1 13 (by decide +kernel) rfl, by decide +kernel, ⟨by decide +kernel, by decide +kernel⟩, by decide +kernel, rfl⟩
theorem kt_X12_bitsOf : Cond.static (zmy m_X12_bitsOf) ∈ zWT := z_i6 216 (by decide +kernel) rfl
def m_X12_isStar : zM := (RX12, ⟨RX12, "isStar", "(I)Z"⟩, prog_14_method_6_code, 2, (some FieldType.boolean))
set_option maxRecDepth 100000 in
theorem k_X12_isStar : zMk m_X12_isStar 1 := ⟨z_i6 38 rfl rfl, z_i1 13 (by decide +kernel) rfl, by decide +kernel, ⟨by decide +kernel, by decide +kernel⟩, by decide +kernel, rfl⟩
theorem ki_X12_isStar : Cond.instanceMethod (zmy m_X12_isStar) ∈ zWT := z_i6 37 (by decide +kernel) rfl
theorem ks_X12_isStar : Cond.selects (zmy m_X12_isStar).cls (zmy m_X12_isStar) (zmy m_X12_isStar) ∈ zWT := z_in 36 (by decide +kernel) rfl
def m_X12_isThrower : zM := (RX12, ⟨RX12, "isThrower", "(I)Z"⟩, prog_14_method_7_code, 2, (some FieldType.boolean))
set_option maxRecDepth 100000 in
theorem k_X12_isThrower : zMk m_X12_isThrower 1 := ⟨z_i6 42 rfl rfl, z_i1 13 (by decide +kernel) rfl, by decide +kernel, ⟨by decide +kernel, by decide +kernel⟩, by decide +kernel, rfl⟩
theorem ki_X12_isThrower : Cond.instanceMethod (zmy m_X12_isThrower) ∈ zWT := z_i6 41 (by decide +kernel) rfl
theorem ks_X12_isThrower : Cond.selects (zmy m_X12_isThrower).cls (zmy m_X12_isThrower) (zmy m_X12_isThrower) ∈ zWT := z_in 37 (by decide +kernel) rfl
def m_X12_isCell : zM := (RX12, ⟨RX12, "isCell", "(I)Z"⟩, prog_14_method_8_code, 1, (some FieldType.boolean))
set_option maxRecDepth 100000 in
theorem k_X12_isCell : zMk m_X12_isCell 1 := ⟨z_i5 223 rfl rfl, z_i1 13 (by decide +kernel) rfl, by decide +kernel, ⟨by decide +kernel, by decide +kernel⟩, by decide +kernel, rfl⟩
theorem kt_X12_isCell : Cond.static (zmy m_X12_isCell) ∈ zWT := z_i5 222 (by decide +kernel) rfl
def m_X12_areStarThrower : zM := (RX12, ⟨RX12, "areStarThrower", "(I)Z"⟩, prog_14_method_9_code, 2, (some FieldType.boolean))
set_option maxRecDepth 100000 in
theorem k_X12_areStarThrower : zMk m_X12_areStarThrower 1 := ⟨z_i6 130 rfl rfl, z_i1 13 (by decide +kernel) rfl, by decide +kernel, ⟨by decide +kernel, by decide +kernel⟩, by decide +kernel, rfl⟩
theorem ki_X12_areStarThrower : Cond.instanceMethod (zmy m_X12_areStarThrower) ∈ zWT := z_i6 129 (by decide +kernel) rfl
theorem ks_X12_areStarThrower : Cond.selects (zmy m_X12_areStarThrower).cls (zmy m_X12_areStarThrower) (zmy m_X12_areStarThrower) ∈ zWT := z_in 54 (by decide +kernel) rfl
def m_X12_starIn : zM := (RX12, ⟨RX12, "starIn", "(I)I"⟩, prog_14_method_10_code, 3, (some FieldType.int))
set_option maxRecDepth 100000 in
theorem k_X12_starIn : zMk m_X12_starIn 1 := ⟨z_i5 230 rfl rfl, z_i1 13 (by decide +kernel) rfl, by decide +kernel, ⟨by decide +kernel, by decide +kernel⟩, by decide +kernel, rfl⟩
theorem ki_X12_starIn : Cond.instanceMethod (zmy m_X12_starIn) ∈ zWT := z_i5 229 (by decide +kernel) rfl
theorem ks_X12_starIn : Cond.selects (zmy m_X12_starIn).cls (zmy m_X12_starIn) (zmy m_X12_starIn) ∈ zWT := z_in 31 (by decide +kernel) rfl
def m_X12_isFree : zM := (RX12, ⟨RX12, "isFree", "(II)Z"⟩, prog_14_method_11_code, 4, (some FieldType.boolean))
set_option maxRecDepth 100000 in
theorem k_X12_isFree : zMk m_X12_isFree 2 := ⟨z_i6 22 rfl rfl, z_i1 13 (by decide +kernel) rfl, by decide +kernel, ⟨by decide +kernel, by decide +kernel⟩, by decide +kernel, rfl⟩
theorem ki_X12_isFree : Cond.instanceMethod (zmy m_X12_isFree) ∈ zWT := z_i6 21 (by decide +kernel) rfl
theorem ks_X12_isFree : Cond.selects (zmy m_X12_isFree).cls (zmy m_X12_isFree) (zmy m_X12_isFree) ∈ zWT := z_in 34 (by decide +kernel) rfl
def m_X12_addStar : zM := (RX12, ⟨RX12, "addStar", "(III)I"⟩, prog_14_method_12_code, 4, (some FieldType.int))
set_option maxRecDepth 100000 in
theorem k_X12_addStar : zMk m_X12_addStar 3 := ⟨z_i5 234 rfl rfl, z_i1 13 (by decide +kernel) rfl, by decide +kernel, ⟨by decide +kernel, by decide +kernel⟩, by decide +kernel, rfl⟩
theorem ki_X12_addStar : Cond.instanceMethod (zmy m_X12_addStar) ∈ zWT := z_i5 233 (by decide +kernel) rfl
theorem ks_X12_addStar : Cond.selects (zmy m_X12_addStar).cls (zmy m_X12_addStar) (zmy m_X12_addStar) ∈ zWT := z_in 32 (by decide +kernel) rfl
def m_X12_star : zM := (RX12, ⟨RX12, "star", "(I)I"⟩, prog_14_method_13_code, 2, (some FieldType.int))
set_option maxRecDepth 100000 in
theorem k_X12_star : zMk m_X12_star 1 := ⟨z_i5 220 rfl rfl, z_i1 13 (by decide +kernel) rfl, by decide +kernel, ⟨by decide +kernel, by decide +kernel⟩, by decide +kernel, rfl⟩
theorem ki_X12_star : Cond.instanceMethod (zmy m_X12_star) ∈ zWT := z_i5 218 (by decide +kernel) rfl
theorem ks_X12_star : Cond.selects (zmy m_X12_star).cls (zmy m_X12_star) (zmy m_X12_star) ∈ zWT := z_i5 219 (by decide +kernel) rfl
def m_X12_stars : zM := (RX12, ⟨RX12, "stars", "(III)I"⟩, prog_14_method_14_code, 8, (some FieldType.int))
set_option maxRecDepth 100000 in
theorem k_X12_stars : zMk m_X12_stars 3 := ⟨z_i5 238 rfl rfl, z_i1 13 (by decide +kernel) rfl, by decide +kernel, ⟨by decide +kernel, by decide +kernel⟩, by decide +kernel, rfl⟩
theorem ki_X12_stars : Cond.instanceMethod (zmy m_X12_stars) ∈ zWT := z_i5 236 (by decide +kernel) rfl
theorem ks_X12_stars : Cond.selects (zmy m_X12_stars).cls (zmy m_X12_stars) (zmy m_X12_stars) ∈ zWT := z_i5 237 (by decide +kernel) rfl
def m_X12_thrower : zM := (RX12, ⟨RX12, "thrower", "(I)I"⟩, prog_14_method_15_code, 2, (some FieldType.int))
set_option maxRecDepth 100000 in
theorem k_X12_thrower : zMk m_X12_thrower 1 := ⟨z_i6 6 rfl rfl, z_i1 13 (by decide +kernel) rfl, by decide +kernel, ⟨by decide +kernel, by decide +kernel⟩, by decide +kernel, rfl⟩
theorem ki_X12_thrower : Cond.instanceMethod (zmy m_X12_thrower) ∈ zWT := z_i6 4 (by decide +kernel) rfl
theorem ks_X12_thrower : Cond.selects (zmy m_X12_thrower).cls (zmy m_X12_thrower) (zmy m_X12_thrower) ∈ zWT := z_i6 5 (by decide +kernel) rfl
def m_X12_ship : zM := (RX12, ⟨RX12, "ship", "(I)I"⟩, prog_14_method_16_code, 2, (some FieldType.int))
set_option maxRecDepth 100000 in
theorem k_X12_ship : zMk m_X12_ship 1 := ⟨z_i6 10 rfl rfl, z_i1 13 (by decide +kernel) rfl, by decide +kernel, ⟨by decide +kernel, by decide +kernel⟩, by decide +kernel, rfl⟩
theorem ki_X12_ship : Cond.instanceMethod (zmy m_X12_ship) ∈ zWT := z_i6 8 (by decide +kernel) rfl
theorem ks_X12_ship : Cond.selects (zmy m_X12_ship).cls (zmy m_X12_ship) (zmy m_X12_ship) ∈ zWT := z_i6 9 (by decide +kernel) rfl
def m_X12_valueAt : zM := (RX12, ⟨RX12, "valueAt", "(II)I"⟩, prog_14_method_17_code, 3, (some FieldType.int))
set_option maxRecDepth 100000 in
theorem k_X12_valueAt : zMk m_X12_valueAt 2 := ⟨z_i6 54 rfl rfl, z_i1 13 (by decide +kernel) rfl, by decide +kernel, ⟨by decide +kernel, by decide +kernel⟩, by decide +kernel, rfl⟩
theorem ki_X12_valueAt : Cond.instanceMethod (zmy m_X12_valueAt) ∈ zWT := z_i6 53 (by decide +kernel) rfl
theorem ks_X12_valueAt : Cond.selects (zmy m_X12_valueAt).cls (zmy m_X12_valueAt) (zmy m_X12_valueAt) ∈ zWT := z_in 40 (by decide +kernel) rfl
def m_X12_lays : zM := (RX12, ⟨RX12, "lays", "(III)V"⟩, prog_14_method_18_code, 4, none)
set_option maxRecDepth 100000 in
theorem k_X12_lays : zMk m_X12_lays 3 := ⟨z_i6 18 rfl rfl, z_i1 13 (by decide +kernel) rfl, by decide +kernel, ⟨by decide +kernel, by decide +kernel⟩, by decide +kernel, rfl⟩
theorem ki_X12_lays : Cond.instanceMethod (zmy m_X12_lays) ∈ zWT := z_i6 17 (by decide +kernel) rfl
theorem ks_X12_lays : Cond.selects (zmy m_X12_lays).cls (zmy m_X12_lays) (zmy m_X12_lays) ∈ zWT := z_in 33 (by decide +kernel) rfl
def m_X12_changes : zM := (RX12, ⟨RX12, "changes", "(III)I"⟩, prog_14_method_19_code, 6, (some FieldType.int))
set_option maxRecDepth 100000 in
theorem k_X12_changes : zMk m_X12_changes 3 := ⟨z_i6 50 rfl rfl, z_i1 13 (by decide +kernel) rfl, by decide +kernel, ⟨by decide +kernel, by decide +kernel⟩, by decide +kernel, rfl⟩
theorem ki_X12_changes : Cond.instanceMethod (zmy m_X12_changes) ∈ zWT := z_i6 49 (by decide +kernel) rfl
theorem ks_X12_changes : Cond.selects (zmy m_X12_changes).cls (zmy m_X12_changes) (zmy m_X12_changes) ∈ zWT := z_in 39 (by decide +kernel) rfl
def m_X12_undo : zM := (RX12, ⟨RX12, "undo", "()I"⟩, prog_14_method_20_code, 1, (some FieldType.int))
set_option maxRecDepth 100000 in
theorem k_X12_undo : zMk m_X12_undo 0 := ⟨z_i6 14 rfl rfl, z_i1 13 (by decide +kernel) rfl, by decide +kernel, ⟨by decide +kernel, by decide +kernel⟩, by decide +kernel, rfl⟩
theorem ki_X12_undo : Cond.instanceMethod (zmy m_X12_undo) ∈ zWT := z_i6 12 (by decide +kernel) rfl
theorem ks_X12_undo : Cond.selects (zmy m_X12_undo).cls (zmy m_X12_undo) (zmy m_X12_undo) ∈ zWT := z_i6 13 (by decide +kernel) rfl
def m_X12_redo : zM := (RX12, ⟨RX12, "redo", "()I"⟩, prog_14_method_21_code, 1, (some FieldType.int))
set_option maxRecDepth 100000 in
theorem k_X12_redo : zMk m_X12_redo 0 := ⟨z_i6 26 rfl rfl, z_i1 13 (by decide +kernel) rfl, by decide +kernel, ⟨by decide +kernel, by decide +kernel⟩, by decide +kernel, rfl⟩
theorem ki_X12_redo : Cond.instanceMethod (zmy m_X12_redo) ∈ zWT := z_i6 24 (by decide +kernel) rfl
theorem ks_X12_redo : Cond.selects (zmy m_X12_redo).cls (zmy m_X12_redo) (zmy m_X12_redo) ∈ zWT := z_i6 25 (by decide +kernel) rfl
def m_X12_isPlace : zM := (RX12, ⟨RX12, "isPlace", "(II)Z"⟩, prog_14_method_22_code, 3, (some FieldType.boolean))
set_option maxRecDepth 100000 in
theorem k_X12_isPlace : zMk m_X12_isPlace 2 := ⟨z_i6 34 rfl rfl, z_i1 13 (by decide +kernel) rfl, by decide +kernel, ⟨by decide +kernel, by decide +kernel⟩, by decide +kernel, rfl⟩
theorem ki_X12_isPlace : Cond.instanceMethod (zmy m_X12_isPlace) ∈ zWT := z_i6 33 (by decide +kernel) rfl
theorem ks_X12_isPlace : Cond.selects (zmy m_X12_isPlace).cls (zmy m_X12_isPlace) (zmy m_X12_isPlace) ∈ zWT := z_in 35 (by decide +kernel) rfl
def m_X12_mayHave : zM := (RX12, ⟨RX12, "mayHave", "(III)Z"⟩, prog_14_method_23_code, 4, (some FieldType.boolean))
set_option maxRecDepth 100000 in
theorem k_X12_mayHave : zMk m_X12_mayHave 3 := ⟨z_i6 46 rfl rfl, z_i1 13 (by decide +kernel) rfl, by decide +kernel, ⟨by decide +kernel, by decide +kernel⟩, by decide +kernel, rfl⟩
theorem ki_X12_mayHave : Cond.instanceMethod (zmy m_X12_mayHave) ∈ zWT := z_i6 45 (by decide +kernel) rfl
theorem ks_X12_mayHave : Cond.selects (zmy m_X12_mayHave).cls (zmy m_X12_mayHave) (zmy m_X12_mayHave) ∈ zWT := z_in 38 (by decide +kernel) rfl
def m_X12_mend : zM := (RX12, ⟨RX12, "mend", "(III)I"⟩, prog_14_method_24_code, 4, (some FieldType.int))
set_option maxRecDepth 100000 in
theorem k_X12_mend : zMk m_X12_mend 3 := ⟨z_i6 30 rfl rfl, z_i1 13 (by decide +kernel) rfl, by decide +kernel, ⟨by decide +kernel, by decide +kernel⟩, by decide +kernel, rfl⟩
theorem ki_X12_mend : Cond.instanceMethod (zmy m_X12_mend) ∈ zWT := z_i6 28 (by decide +kernel) rfl
theorem ks_X12_mend : Cond.selects (zmy m_X12_mend).cls (zmy m_X12_mend) (zmy m_X12_mend) ∈ zWT := z_i6 29 (by decide +kernel) rfl
def m_X12_of : zM := (RX12, ⟨RX12, "of", "(II)I"⟩, prog_14_method_25_code, 3, (some FieldType.int))
set_option maxRecDepth 100000 in
theorem k_X12_of : zMk m_X12_of 2 := ⟨z_i6 59 rfl rfl, z_i1 13 (by decide +kernel) rfl, by decide +kernel, ⟨by decide +kernel, by decide +kernel⟩, by decide +kernel, rfl⟩
theorem ki_X12_of : Cond.instanceMethod (zmy m_X12_of) ∈ zWT := z_i6 57 (by decide +kernel) rfl
theorem ks_X12_of : Cond.selects (zmy m_X12_of).cls (zmy m_X12_of) (zmy m_X12_of) ∈ zWT := z_i6 58 (by decide +kernel) rfl
def m_X12_feed : zM := (RX12, ⟨RX12, "feed", "(I)I"⟩, prog_14_method_26_code, 2, (some FieldType.int))
set_option maxRecDepth 100000 in
theorem k_X12_feed : zMk m_X12_feed 1 := ⟨z_i6 63 rfl rfl, z_i1 13 (by decide +kernel) rfl, by decide +kernel, ⟨by decide +kernel, by decide +kernel⟩, by decide +kernel, rfl⟩
theorem ki_X12_feed : Cond.instanceMethod (zmy m_X12_feed) ∈ zWT := z_i6 61 (by decide +kernel) rfl
theorem ks_X12_feed : Cond.selects (zmy m_X12_feed).cls (zmy m_X12_feed) (zmy m_X12_feed) ∈ zWT := z_i6 62 (by decide +kernel) rfl
def m_X12_look : zM := (RX12, ⟨RX12, "look", "()I"⟩, prog_14_method_27_code, 1, (some FieldType.int))
set_option maxRecDepth 100000 in
theorem k_X12_look : zMk m_X12_look 0 := ⟨z_i6 103 rfl rfl, z_i1 13 (by decide +kernel) rfl, by decide +kernel, ⟨by decide +kernel, by decide +kernel⟩, by decide +kernel, rfl⟩
theorem ki_X12_look : Cond.instanceMethod (zmy m_X12_look) ∈ zWT := z_i6 102 (by decide +kernel) rfl
theorem ks_X12_look : Cond.selects (zmy m_X12_look).cls (zmy m_X12_look) (zmy m_X12_look) ∈ zWT := z_in 49 (by decide +kernel) rfl
def m_X12_wrong : zM := (RX12, ⟨RX12, "wrong", "()V"⟩, prog_14_method_28_code, 1, none)
set_option maxRecDepth 100000 in
theorem k_X12_wrong : zMk m_X12_wrong 0 := ⟨z_i6 118 rfl rfl, z_i1 13 (by decide +kernel) rfl, by decide +kernel, ⟨by decide +kernel, by decide +kernel⟩, by decide +kernel, rfl⟩
theorem ki_X12_wrong : Cond.instanceMethod (zmy m_X12_wrong) ∈ zWT := z_i6 117 (by decide +kernel) rfl
theorem ks_X12_wrong : Cond.selects (zmy m_X12_wrong).cls (zmy m_X12_wrong) (zmy m_X12_wrong) ∈ zWT := z_in 52 (by decide +kernel) rfl
def m_X12_addStep : zM := (RX12, ⟨RX12, "addStep", "(II)V"⟩, prog_14_method_29_code, 3, none)
set_option maxRecDepth 100000 in
theorem k_X12_addStep : zMk m_X12_addStep 2 := ⟨z_i6 110 rfl rfl, z_i1 13 (by decide +kernel) rfl, by decide +kernel, ⟨by decide +kernel, by decide +kernel⟩, by decide +kernel, rfl⟩
theorem ki_X12_addStep : Cond.instanceMethod (zmy m_X12_addStep) ∈ zWT := z_i6 109 (by decide +kernel) rfl
theorem ks_X12_addStep : Cond.selects (zmy m_X12_addStep).cls (zmy m_X12_addStep) (zmy m_X12_addStep) ∈ zWT := z_in 50 (by decide +kernel) rfl
def m_X12_nameOf : zM := (RX12, ⟨RX12, "nameOf", "(I)I"⟩, prog_14_method_30_code, 1, (some FieldType.int))
set_option maxRecDepth 100000 in
theorem k_X12_nameOf : zMk m_X12_nameOf 1 := ⟨z_i6 106 rfl rfl, z_i1 13 (by decide +kernel) rfl, by decide +kernel, ⟨by decide +kernel, by decide +kernel⟩, by decide +kernel, rfl⟩
theorem kt_X12_nameOf : Cond.static (zmy m_X12_nameOf) ∈ zWT := z_i6 105 (by decide +kernel) rfl
def m_X12_opens : zM := (RX12, ⟨RX12, "opens", "()Z"⟩, prog_14_method_31_code, 1, (some FieldType.boolean))
set_option maxRecDepth 100000 in
theorem k_X12_opens : zMk m_X12_opens 0 := ⟨z_i6 114 rfl rfl, z_i1 13 (by decide +kernel) rfl, by decide +kernel, ⟨by decide +kernel, by decide +kernel⟩, by decide +kernel, rfl⟩
theorem ki_X12_opens : Cond.instanceMethod (zmy m_X12_opens) ∈ zWT := z_i6 113 (by decide +kernel) rfl
theorem ks_X12_opens : Cond.selects (zmy m_X12_opens).cls (zmy m_X12_opens) (zmy m_X12_opens) ∈ zWT := z_in 51 (by decide +kernel) rfl
def m_X12_figure : zM := (RX12, ⟨RX12, "figure", "()V"⟩, prog_14_method_32_code, 3, none)
set_option maxRecDepth 100000 in
theorem k_X12_figure : zMk m_X12_figure 0 := ⟨z_i6 122 rfl rfl, z_i1 13 (by decide +kernel) rfl, by decide +kernel, ⟨by decide +kernel, by decide +kernel⟩, by decide +kernel, rfl⟩
theorem ki_X12_figure : Cond.instanceMethod (zmy m_X12_figure) ∈ zWT := z_i6 121 (by decide +kernel) rfl
theorem ks_X12_figure : Cond.selects (zmy m_X12_figure).cls (zmy m_X12_figure) (zmy m_X12_figure) ∈ zWT := z_in 53 (by decide +kernel) rfl
def m_X12_operand : zM := (RX12, ⟨RX12, "operand", "()V"⟩, prog_14_method_33_code, 2, none)
set_option maxRecDepth 100000 in
theorem k_X12_operand : zMk m_X12_operand 0 := ⟨z_i6 99 rfl rfl, z_i1 13 (by decide +kernel) rfl, by decide +kernel, ⟨by decide +kernel, by decide +kernel⟩, by decide +kernel, rfl⟩
theorem ki_X12_operand : Cond.instanceMethod (zmy m_X12_operand) ∈ zWT := z_i6 98 (by decide +kernel) rfl
theorem ks_X12_operand : Cond.selects (zmy m_X12_operand).cls (zmy m_X12_operand) (zmy m_X12_operand) ∈ zWT := z_in 48 (by decide +kernel) rfl
def m_X12_product : zM := (RX12, ⟨RX12, "product", "()V"⟩, prog_14_method_34_code, 2, none)
set_option maxRecDepth 100000 in
theorem k_X12_product : zMk m_X12_product 0 := ⟨z_i6 95 rfl rfl, z_i1 13 (by decide +kernel) rfl, by decide +kernel, ⟨by decide +kernel, by decide +kernel⟩, by decide +kernel, rfl⟩
theorem ki_X12_product : Cond.instanceMethod (zmy m_X12_product) ∈ zWT := z_i6 94 (by decide +kernel) rfl
theorem ks_X12_product : Cond.selects (zmy m_X12_product).cls (zmy m_X12_product) (zmy m_X12_product) ∈ zWT := z_in 47 (by decide +kernel) rfl
def m_X12_sum : zM := (RX12, ⟨RX12, "sum", "()V"⟩, prog_14_method_35_code, 2, none)
set_option maxRecDepth 100000 in
theorem k_X12_sum : zMk m_X12_sum 0 := ⟨z_i6 91 rfl rfl, z_i1 13 (by decide +kernel) rfl, by decide +kernel, ⟨by decide +kernel, by decide +kernel⟩, by decide +kernel, rfl⟩
theorem ki_X12_sum : Cond.instanceMethod (zmy m_X12_sum) ∈ zWT := z_i6 90 (by decide +kernel) rfl
theorem ks_X12_sum : Cond.selects (zmy m_X12_sum).cls (zmy m_X12_sum) (zmy m_X12_sum) ∈ zWT := z_in 46 (by decide +kernel) rfl
def m_X12_compared : zM := (RX12, ⟨RX12, "compared", "()V"⟩, prog_14_method_36_code, 2, none)
set_option maxRecDepth 100000 in
theorem k_X12_compared : zMk m_X12_compared 0 := ⟨z_i6 87 rfl rfl, z_i1 13 (by decide +kernel) rfl, by decide +kernel, ⟨by decide +kernel, by decide +kernel⟩, by decide +kernel, rfl⟩
theorem ki_X12_compared : Cond.instanceMethod (zmy m_X12_compared) ∈ zWT := z_i6 86 (by decide +kernel) rfl
theorem ks_X12_compared : Cond.selects (zmy m_X12_compared).cls (zmy m_X12_compared) (zmy m_X12_compared) ∈ zWT := z_in 45 (by decide +kernel) rfl
def m_X12_both : zM := (RX12, ⟨RX12, "both", "()V"⟩, prog_14_method_37_code, 1, none)
set_option maxRecDepth 100000 in
theorem k_X12_both : zMk m_X12_both 0 := ⟨z_i6 83 rfl rfl, z_i1 13 (by decide +kernel) rfl, by decide +kernel, ⟨by decide +kernel, by decide +kernel⟩, by decide +kernel, rfl⟩
theorem ki_X12_both : Cond.instanceMethod (zmy m_X12_both) ∈ zWT := z_i6 82 (by decide +kernel) rfl
theorem ks_X12_both : Cond.selects (zmy m_X12_both).cls (zmy m_X12_both) (zmy m_X12_both) ∈ zWT := z_in 44 (by decide +kernel) rfl
def m_X12_either : zM := (RX12, ⟨RX12, "either", "()V"⟩, prog_14_method_38_code, 1, none)
set_option maxRecDepth 100000 in
theorem k_X12_either : zMk m_X12_either 0 := ⟨z_i6 79 rfl rfl, z_i1 13 (by decide +kernel) rfl, by decide +kernel, ⟨by decide +kernel, by decide +kernel⟩, by decide +kernel, rfl⟩
theorem ki_X12_either : Cond.instanceMethod (zmy m_X12_either) ∈ zWT := z_i6 78 (by decide +kernel) rfl
theorem ks_X12_either : Cond.selects (zmy m_X12_either).cls (zmy m_X12_either) (zmy m_X12_either) ∈ zWT := z_in 43 (by decide +kernel) rfl
def m_X12_line : zM := (RX12, ⟨RX12, "line", "()V"⟩, prog_14_method_39_code, 2, none)
set_option maxRecDepth 100000 in
theorem k_X12_line : zMk m_X12_line 0 := ⟨z_i6 75 rfl rfl, z_i1 13 (by decide +kernel) rfl, by decide +kernel, ⟨by decide +kernel, by decide +kernel⟩, by decide +kernel, rfl⟩
theorem ki_X12_line : Cond.instanceMethod (zmy m_X12_line) ∈ zWT := z_i6 74 (by decide +kernel) rfl
theorem ks_X12_line : Cond.selects (zmy m_X12_line).cls (zmy m_X12_line) (zmy m_X12_line) ∈ zWT := z_in 42 (by decide +kernel) rfl
def m_X12_readText : zM := (RX12, ⟨RX12, "readText", "(I)I"⟩, prog_14_method_40_code, 3, (some FieldType.int))
set_option maxRecDepth 100000 in
theorem k_X12_readText : zMk m_X12_readText 1 := ⟨z_i6 71 rfl rfl, z_i1 13 (by decide +kernel) rfl, by decide +kernel, ⟨by decide +kernel, by decide +kernel⟩, by decide +kernel, rfl⟩
theorem ki_X12_readText : Cond.instanceMethod (zmy m_X12_readText) ∈ zWT := z_i6 70 (by decide +kernel) rfl
theorem ks_X12_readText : Cond.selects (zmy m_X12_readText).cls (zmy m_X12_readText) (zmy m_X12_readText) ∈ zWT := z_in 41 (by decide +kernel) rfl
def m_X12_twoOf : zM := (RX12, ⟨RX12, "twoOf", "(III)I"⟩, prog_14_method_41_code, 3, (some FieldType.int))
set_option maxRecDepth 100000 in
theorem k_X12_twoOf : zMk m_X12_twoOf 3 := ⟨z_i6 145 rfl rfl, z_i1 13 (by decide +kernel) rfl, by decide +kernel, ⟨by decide +kernel, by decide +kernel⟩, by decide +kernel, rfl⟩
theorem kt_X12_twoOf : Cond.static (zmy m_X12_twoOf) ∈ zWT := z_i6 144 (by decide +kernel) rfl
def m_X12_worked : zM := (RX12, ⟨RX12, "worked", "(III)I"⟩, prog_14_method_42_code, 7, (some FieldType.int))
set_option maxRecDepth 100000 in
theorem k_X12_worked : zMk m_X12_worked 3 := ⟨z_i6 142 rfl rfl, z_i1 13 (by decide +kernel) rfl, by decide +kernel, ⟨by decide +kernel, by decide +kernel⟩, by decide +kernel, rfl⟩
theorem ki_X12_worked : Cond.instanceMethod (zmy m_X12_worked) ∈ zWT := z_i6 141 (by decide +kernel) rfl
theorem ks_X12_worked : Cond.selects (zmy m_X12_worked).cls (zmy m_X12_worked) (zmy m_X12_worked) ∈ zWT := z_in 57 (by decide +kernel) rfl
def m_X12_gives : zM := (RX12, ⟨RX12, "gives", "(I)I"⟩, prog_14_method_43_code, 4, (some FieldType.int))
set_option maxRecDepth 100000 in
theorem k_X12_gives : zMk m_X12_gives 1 := ⟨z_i6 138 rfl rfl, z_i1 13 (by decide +kernel) rfl, by decide +kernel, ⟨by decide +kernel, by decide +kernel⟩, by decide +kernel, rfl⟩
theorem ki_X12_gives : Cond.instanceMethod (zmy m_X12_gives) ∈ zWT := z_i6 137 (by decide +kernel) rfl
theorem ks_X12_gives : Cond.selects (zmy m_X12_gives).cls (zmy m_X12_gives) (zmy m_X12_gives) ∈ zWT := z_in 56 (by decide +kernel) rfl
def m_X12_law : zM := (RX12, ⟨RX12, "law", "()I"⟩, prog_14_method_44_code, 2, (some FieldType.int))
set_option maxRecDepth 100000 in
theorem k_X12_law : zMk m_X12_law 0 := ⟨z_i6 67 rfl rfl, z_i1 13 (by decide +kernel) rfl, by decide +kernel, ⟨by decide +kernel, by decide +kernel⟩, by decide +kernel, rfl⟩
theorem ki_X12_law : Cond.instanceMethod (zmy m_X12_law) ∈ zWT := z_i6 65 (by decide +kernel) rfl
theorem ks_X12_law : Cond.selects (zmy m_X12_law).cls (zmy m_X12_law) (zmy m_X12_law) ∈ zWT := z_i6 66 (by decide +kernel) rfl
def m_X12_oddsBy : zM := (RX12, ⟨RX12, "oddsBy", "(III)I"⟩, prog_14_method_45_code, 6, (some FieldType.int))
set_option maxRecDepth 100000 in
theorem k_X12_oddsBy : zMk m_X12_oddsBy 3 := ⟨z_i6 134 rfl rfl, z_i1 13 (by decide +kernel) rfl, by decide +kernel, ⟨by decide +kernel, by decide +kernel⟩, by decide +kernel, rfl⟩
theorem ki_X12_oddsBy : Cond.instanceMethod (zmy m_X12_oddsBy) ∈ zWT := z_i6 133 (by decide +kernel) rfl
theorem ks_X12_oddsBy : Cond.selects (zmy m_X12_oddsBy).cls (zmy m_X12_oddsBy) (zmy m_X12_oddsBy) ∈ zWT := z_in 55 (by decide +kernel) rfl
def m_X12_odds : zM := (RX12, ⟨RX12, "odds", "(I)I"⟩, prog_14_method_46_code, 2, (some FieldType.int))
set_option maxRecDepth 100000 in
theorem k_X12_odds : zMk m_X12_odds 1 := ⟨z_i6 126 rfl rfl, z_i1 13 (by decide +kernel) rfl, by decide +kernel, ⟨by decide +kernel, by decide +kernel⟩, by decide +kernel, rfl⟩
theorem ki_X12_odds : Cond.instanceMethod (zmy m_X12_odds) ∈ zWT := z_i6 124 (by decide +kernel) rfl
theorem ks_X12_odds : Cond.selects (zmy m_X12_odds).cls (zmy m_X12_odds) (zmy m_X12_odds) ∈ zWT := z_i6 125 (by decide +kernel) rfl
def m_X12_rowFault : zM := (RX12, ⟨RX12, "rowFault", "(I)I"⟩, prog_14_method_47_code, 2, (some FieldType.int))
set_option maxRecDepth 100000 in
theorem k_X12_rowFault : zMk m_X12_rowFault 1 := ⟨z_i6 153 rfl rfl, z_i1 13 (by decide +kernel) rfl, by decide +kernel, ⟨by decide +kernel, by decide +kernel⟩, by decide +kernel, rfl⟩
theorem ki_X12_rowFault : Cond.instanceMethod (zmy m_X12_rowFault) ∈ zWT := z_i6 152 (by decide +kernel) rfl
theorem ks_X12_rowFault : Cond.selects (zmy m_X12_rowFault).cls (zmy m_X12_rowFault) (zmy m_X12_rowFault) ∈ zWT := z_in 58 (by decide +kernel) rfl
def m_X12_at : zM := (RX12, ⟨RX12, "at", "(II)I"⟩, prog_14_method_48_code, 3, (some FieldType.int))
set_option maxRecDepth 100000 in
theorem k_X12_at : zMk m_X12_at 2 := ⟨z_i6 165 rfl rfl, z_i1 13 (by decide +kernel) rfl, by decide +kernel, ⟨by decide +kernel, by decide +kernel⟩, by decide +kernel, rfl⟩
theorem ki_X12_at : Cond.instanceMethod (zmy m_X12_at) ∈ zWT := z_i6 164 (by decide +kernel) rfl
theorem ks_X12_at : Cond.selects (zmy m_X12_at).cls (zmy m_X12_at) (zmy m_X12_at) ∈ zWT := z_in 61 (by decide +kernel) rfl
def m_X12_goesOn : zM := (RX12, ⟨RX12, "goesOn", "(II)Z"⟩, prog_14_method_49_code, 5, (some FieldType.boolean))
set_option maxRecDepth 100000 in
theorem k_X12_goesOn : zMk m_X12_goesOn 2 := ⟨z_i6 161 rfl rfl, z_i1 13 (by decide +kernel) rfl, by decide +kernel, ⟨by decide +kernel, by decide +kernel⟩, by decide +kernel, rfl⟩
theorem ki_X12_goesOn : Cond.instanceMethod (zmy m_X12_goesOn) ∈ zWT := z_i6 160 (by decide +kernel) rfl
theorem ks_X12_goesOn : Cond.selects (zmy m_X12_goesOn).cls (zmy m_X12_goesOn) (zmy m_X12_goesOn) ∈ zWT := z_in 60 (by decide +kernel) rfl
def m_X12_layPlan : zM := (RX12, ⟨RX12, "layPlan", "(I)V"⟩, prog_14_method_50_code, 3, none)
set_option maxRecDepth 100000 in
theorem k_X12_layPlan : zMk m_X12_layPlan 1 := ⟨z_i6 157 rfl rfl, z_i1 13 (by decide +kernel) rfl, by decide +kernel, ⟨by decide +kernel, by decide +kernel⟩, by decide +kernel, rfl⟩
theorem ki_X12_layPlan : Cond.instanceMethod (zmy m_X12_layPlan) ∈ zWT := z_i6 156 (by decide +kernel) rfl
theorem ks_X12_layPlan : Cond.selects (zmy m_X12_layPlan).cls (zmy m_X12_layPlan) (zmy m_X12_layPlan) ∈ zWT := z_in 59 (by decide +kernel) rfl
def m_X12_flung : zM := (RX12, ⟨RX12, "flung", "(II)I"⟩, prog_14_method_51_code, 3, (some FieldType.int))
set_option maxRecDepth 100000 in
theorem k_X12_flung : zMk m_X12_flung 2 := ⟨z_i6 149 rfl rfl, z_i1 13 (by decide +kernel) rfl, by decide +kernel, ⟨by decide +kernel, by decide +kernel⟩, by decide +kernel, rfl⟩
theorem ki_X12_flung : Cond.instanceMethod (zmy m_X12_flung) ∈ zWT := z_i6 147 (by decide +kernel) rfl
theorem ks_X12_flung : Cond.selects (zmy m_X12_flung).cls (zmy m_X12_flung) (zmy m_X12_flung) ∈ zWT := z_i6 148 (by decide +kernel) rfl
def m_X12_planOdds : zM := (RX12, ⟨RX12, "planOdds", "(I)I"⟩, prog_14_method_52_code, 2, (some FieldType.int))
set_option maxRecDepth 100000 in
theorem k_X12_planOdds : zMk m_X12_planOdds 1 := ⟨z_i6 174 rfl rfl, z_i1 13 (by decide +kernel) rfl, by decide +kernel, ⟨by decide +kernel, by decide +kernel⟩, by decide +kernel, rfl⟩
theorem ki_X12_planOdds : Cond.instanceMethod (zmy m_X12_planOdds) ∈ zWT := z_i6 173 (by decide +kernel) rfl
theorem ks_X12_planOdds : Cond.selects (zmy m_X12_planOdds).cls (zmy m_X12_planOdds) (zmy m_X12_planOdds) ∈ zWT := z_in 62 (by decide +kernel) rfl
def m_X12_asPart : zM := (RX12, ⟨RX12, "asPart", "(JJI)J"⟩, prog_14_method_53_code, 11, (some FieldType.long))
set_option maxRecDepth 100000 in
theorem k_X12_asPart : zMk m_X12_asPart 3 := ⟨z_i6 178 rfl rfl, z_i1 13 (by decide +kernel) rfl, by decide +kernel, ⟨by decide +kernel, by decide +kernel⟩, by decide +kernel, rfl⟩
theorem kt_X12_asPart : Cond.static (zmy m_X12_asPart) ∈ zWT := z_i6 177 (by decide +kernel) rfl
def m_X12_likely : zM := (RX12, ⟨RX12, "likely", "(II)J"⟩, prog_14_method_54_code, 8, (some FieldType.long))
set_option maxRecDepth 100000 in
theorem k_X12_likely : zMk m_X12_likely 2 := ⟨z_i6 169 rfl rfl, z_i1 13 (by decide +kernel) rfl, by decide +kernel, ⟨by decide +kernel, by decide +kernel⟩, by decide +kernel, rfl⟩
theorem ki_X12_likely : Cond.instanceMethod (zmy m_X12_likely) ∈ zWT := z_i6 167 (by decide +kernel) rfl
theorem ks_X12_likely : Cond.selects (zmy m_X12_likely).cls (zmy m_X12_likely) (zmy m_X12_likely) ∈ zWT := z_i6 168 (by decide +kernel) rfl
def m_X12_mean : zM := (RX12, ⟨RX12, "mean", "(II)J"⟩, prog_14_method_55_code, 6, (some FieldType.long))
set_option maxRecDepth 100000 in
theorem k_X12_mean : zMk m_X12_mean 2 := ⟨z_i6 182 rfl rfl, z_i1 13 (by decide +kernel) rfl, by decide +kernel, ⟨by decide +kernel, by decide +kernel⟩, by decide +kernel, rfl⟩
theorem ki_X12_mean : Cond.instanceMethod (zmy m_X12_mean) ∈ zWT := z_i6 180 (by decide +kernel) rfl
theorem ks_X12_mean : Cond.selects (zmy m_X12_mean).cls (zmy m_X12_mean) (zmy m_X12_mean) ∈ zWT := z_i6 181 (by decide +kernel) rfl
def m_X12_downMany : zM := (RX12, ⟨RX12, "downMany", "()I"⟩, prog_14_method_56_code, 3, (some FieldType.int))
set_option maxRecDepth 100000 in
theorem k_X12_downMany : zMk m_X12_downMany 0 := ⟨z_i6 190 rfl rfl, z_i1 13 (by decide +kernel) rfl, by decide +kernel, ⟨by decide +kernel, by decide +kernel⟩, by decide +kernel, rfl⟩
theorem ki_X12_downMany : Cond.instanceMethod (zmy m_X12_downMany) ∈ zWT := z_i6 189 (by decide +kernel) rfl
theorem ks_X12_downMany : Cond.selects (zmy m_X12_downMany).cls (zmy m_X12_downMany) (zmy m_X12_downMany) ∈ zWT := z_in 63 (by decide +kernel) rfl
def m_X12_minutesBy : zM := (RX12, ⟨RX12, "minutesBy", "(II)I"⟩, prog_14_method_57_code, 6, (some FieldType.int))
set_option maxRecDepth 100000 in
theorem k_X12_minutesBy : zMk m_X12_minutesBy 2 := ⟨z_i6 194 rfl rfl, z_i1 13 (by decide +kernel) rfl, by decide +kernel, ⟨by decide +kernel, by decide +kernel⟩, by decide +kernel, rfl⟩
theorem ki_X12_minutesBy : Cond.instanceMethod (zmy m_X12_minutesBy) ∈ zWT := z_i6 193 (by decide +kernel) rfl
theorem ks_X12_minutesBy : Cond.selects (zmy m_X12_minutesBy).cls (zmy m_X12_minutesBy) (zmy m_X12_minutesBy) ∈ zWT := z_in 64 (by decide +kernel) rfl
def m_X12_dealt : zM := (RX12, ⟨RX12, "dealt", "(I)I"⟩, prog_14_method_58_code, 6, (some FieldType.int))
set_option maxRecDepth 100000 in
theorem k_X12_dealt : zMk m_X12_dealt 1 := ⟨z_i6 186 rfl rfl, z_i1 13 (by decide +kernel) rfl, by decide +kernel, ⟨by decide +kernel, by decide +kernel⟩, by decide +kernel, rfl⟩
theorem ki_X12_dealt : Cond.instanceMethod (zmy m_X12_dealt) ∈ zWT := z_i6 184 (by decide +kernel) rfl
theorem ks_X12_dealt : Cond.selects (zmy m_X12_dealt).cls (zmy m_X12_dealt) (zmy m_X12_dealt) ∈ zWT := z_i6 185 (by decide +kernel) rfl
def m_X12_dropsAt : zM := (RX12, ⟨RX12, "dropsAt", "(I)I"⟩, prog_14_method_59_code, 3, (some FieldType.int))
set_option maxRecDepth 100000 in
theorem k_X12_dropsAt : zMk m_X12_dropsAt 1 := ⟨z_i6 202 rfl rfl, z_i1 13 (by decide +kernel) rfl, by decide +kernel, ⟨by decide +kernel, by decide +kernel⟩, by decide +kernel, rfl⟩
theorem ki_X12_dropsAt : Cond.instanceMethod (zmy m_X12_dropsAt) ∈ zWT := z_i6 201 (by decide +kernel) rfl
theorem ks_X12_dropsAt : Cond.selects (zmy m_X12_dropsAt).cls (zmy m_X12_dropsAt) (zmy m_X12_dropsAt) ∈ zWT := z_in 65 (by decide +kernel) rfl
def m_X12_drops : zM := (RX12, ⟨RX12, "drops", "(I)I"⟩, prog_14_method_60_code, 2, (some FieldType.int))
set_option maxRecDepth 100000 in
theorem k_X12_drops : zMk m_X12_drops 1 := ⟨z_i6 198 rfl rfl, z_i1 13 (by decide +kernel) rfl, by decide +kernel, ⟨by decide +kernel, by decide +kernel⟩, by decide +kernel, rfl⟩
theorem ki_X12_drops : Cond.instanceMethod (zmy m_X12_drops) ∈ zWT := z_i6 196 (by decide +kernel) rfl
theorem ks_X12_drops : Cond.selects (zmy m_X12_drops).cls (zmy m_X12_drops) (zmy m_X12_drops) ∈ zWT := z_i6 197 (by decide +kernel) rfl
def m_X12_upNow : zM := (RX12, ⟨RX12, "upNow", "()I"⟩, prog_14_method_61_code, 3, (some FieldType.int))
set_option maxRecDepth 100000 in
theorem k_X12_upNow : zMk m_X12_upNow 0 := ⟨z_i7 1 rfl rfl, z_i1 13 (by decide +kernel) rfl, by decide +kernel, ⟨by decide +kernel, by decide +kernel⟩, by decide +kernel, rfl⟩
theorem ki_X12_upNow : Cond.instanceMethod (zmy m_X12_upNow) ∈ zWT := z_i7 0 (by decide +kernel) rfl
theorem ks_X12_upNow : Cond.selects (zmy m_X12_upNow).cls (zmy m_X12_upNow) (zmy m_X12_upNow) ∈ zWT := z_in 70 (by decide +kernel) rfl
def m_X12_stillUp : zM := (RX12, ⟨RX12, "stillUp", "(I)I"⟩, prog_14_method_62_code, 4, (some FieldType.int))
set_option maxRecDepth 100000 in
theorem k_X12_stillUp : zMk m_X12_stillUp 1 := ⟨z_i6 214 rfl rfl, z_i1 13 (by decide +kernel) rfl, by decide +kernel, ⟨by decide +kernel, by decide +kernel⟩, by decide +kernel, rfl⟩
theorem ki_X12_stillUp : Cond.instanceMethod (zmy m_X12_stillUp) ∈ zWT := z_i6 213 (by decide +kernel) rfl
theorem ks_X12_stillUp : Cond.selects (zmy m_X12_stillUp).cls (zmy m_X12_stillUp) (zmy m_X12_stillUp) ∈ zWT := z_in 67 (by decide +kernel) rfl
def m_X12_firstDrop : zM := (RX12, ⟨RX12, "firstDrop", "()I"⟩, prog_14_method_63_code, 3, (some FieldType.int))
set_option maxRecDepth 100000 in
theorem k_X12_firstDrop : zMk m_X12_firstDrop 0 := ⟨z_i6 210 rfl rfl, z_i1 13 (by decide +kernel) rfl, by decide +kernel, ⟨by decide +kernel, by decide +kernel⟩, by decide +kernel, rfl⟩
theorem ki_X12_firstDrop : Cond.instanceMethod (zmy m_X12_firstDrop) ∈ zWT := z_i6 209 (by decide +kernel) rfl
theorem ks_X12_firstDrop : Cond.selects (zmy m_X12_firstDrop).cls (zmy m_X12_firstDrop) (zmy m_X12_firstDrop) ∈ zWT := z_in 66 (by decide +kernel) rfl
def m_X12_upBy : zM := (RX12, ⟨RX12, "upBy", "(I)I"⟩, prog_14_method_64_code, 2, (some FieldType.int))
set_option maxRecDepth 100000 in
theorem k_X12_upBy : zMk m_X12_upBy 1 := ⟨z_i6 206 rfl rfl, z_i1 13 (by decide +kernel) rfl, by decide +kernel, ⟨by decide +kernel, by decide +kernel⟩, by decide +kernel, rfl⟩
theorem ki_X12_upBy : Cond.instanceMethod (zmy m_X12_upBy) ∈ zWT := z_i6 204 (by decide +kernel) rfl
theorem ks_X12_upBy : Cond.selects (zmy m_X12_upBy).cls (zmy m_X12_upBy) (zmy m_X12_upBy) ∈ zWT := z_i6 205 (by decide +kernel) rfl
def m_X12_liesAt : zM := (RX12, ⟨RX12, "liesAt", "(I)I"⟩, prog_14_method_65_code, 2, (some FieldType.int))
set_option maxRecDepth 100000 in
theorem k_X12_liesAt : zMk m_X12_liesAt 1 := ⟨z_i6 225 rfl rfl, z_i1 13 (by decide +kernel) rfl, by decide +kernel, ⟨by decide +kernel, by decide +kernel⟩, by decide +kernel, rfl⟩
theorem ki_X12_liesAt : Cond.instanceMethod (zmy m_X12_liesAt) ∈ zWT := z_i6 224 (by decide +kernel) rfl
theorem ks_X12_liesAt : Cond.selects (zmy m_X12_liesAt).cls (zmy m_X12_liesAt) (zmy m_X12_liesAt) ∈ zWT := z_in 68 (by decide +kernel) rfl
def m_X12_lies : zM := (RX12, ⟨RX12, "lies", "(I)I"⟩, prog_14_method_66_code, 2, (some FieldType.int))
set_option maxRecDepth 100000 in
theorem k_X12_lies : zMk m_X12_lies 1 := ⟨z_i6 221 rfl rfl, z_i1 13 (by decide +kernel) rfl, by decide +kernel, ⟨by decide +kernel, by decide +kernel⟩, by decide +kernel, rfl⟩
theorem ki_X12_lies : Cond.instanceMethod (zmy m_X12_lies) ∈ zWT := z_i6 219 (by decide +kernel) rfl
theorem ks_X12_lies : Cond.selects (zmy m_X12_lies).cls (zmy m_X12_lies) (zmy m_X12_lies) ∈ zWT := z_i6 220 (by decide +kernel) rfl
def m_X12_brightIn : zM := (RX12, ⟨RX12, "brightIn", "(II)I"⟩, prog_14_method_67_code, 5, (some FieldType.int))
set_option maxRecDepth 100000 in
theorem k_X12_brightIn : zMk m_X12_brightIn 2 := ⟨z_i6 233 rfl rfl, z_i1 13 (by decide +kernel) rfl, by decide +kernel, ⟨by decide +kernel, by decide +kernel⟩, by decide +kernel, rfl⟩
theorem ki_X12_brightIn : Cond.instanceMethod (zmy m_X12_brightIn) ∈ zWT := z_i6 232 (by decide +kernel) rfl
theorem ks_X12_brightIn : Cond.selects (zmy m_X12_brightIn).cls (zmy m_X12_brightIn) (zmy m_X12_brightIn) ∈ zWT := z_in 69 (by decide +kernel) rfl
def m_X12_walk : zM := (RX12, ⟨RX12, "walk", "(III)I"⟩, prog_14_method_68_code, 10, (some FieldType.int))
set_option maxRecDepth 100000 in
theorem k_X12_walk : zMk m_X12_walk 3 := ⟨z_i6 229 rfl rfl, z_i1 13 (by decide +kernel) rfl, by decide +kernel, ⟨by decide +kernel, by decide +kernel⟩, by decide +kernel, rfl⟩
theorem ki_X12_walk : Cond.instanceMethod (zmy m_X12_walk) ∈ zWT := z_i6 227 (by decide +kernel) rfl
theorem ks_X12_walk : Cond.selects (zmy m_X12_walk).cls (zmy m_X12_walk) (zmy m_X12_walk) ∈ zWT := z_i6 228 (by decide +kernel) rfl
def m_X12_steerBy : zM := (RX12, ⟨RX12, "steerBy", "(I)I"⟩, prog_14_method_69_code, 4, (some FieldType.int))
set_option maxRecDepth 100000 in
theorem k_X12_steerBy : zMk m_X12_steerBy 1 := ⟨z_i7 5 rfl rfl, z_i1 13 (by decide +kernel) rfl, by decide +kernel, ⟨by decide +kernel, by decide +kernel⟩, by decide +kernel, rfl⟩
theorem ki_X12_steerBy : Cond.instanceMethod (zmy m_X12_steerBy) ∈ zWT := z_i7 4 (by decide +kernel) rfl
theorem ks_X12_steerBy : Cond.selects (zmy m_X12_steerBy).cls (zmy m_X12_steerBy) (zmy m_X12_steerBy) ∈ zWT := z_in 71 (by decide +kernel) rfl
def m_X12_steer : zM := (RX12, ⟨RX12, "steer", "()I"⟩, prog_14_method_70_code, 1, (some FieldType.int))
set_option maxRecDepth 100000 in
theorem k_X12_steer : zMk m_X12_steer 0 := ⟨z_i6 237 rfl rfl, z_i1 13 (by decide +kernel) rfl, by decide +kernel, ⟨by decide +kernel, by decide +kernel⟩, by decide +kernel, rfl⟩
theorem ki_X12_steer : Cond.instanceMethod (zmy m_X12_steer) ∈ zWT := z_i6 235 (by decide +kernel) rfl
theorem ks_X12_steer : Cond.selects (zmy m_X12_steer).cls (zmy m_X12_steer) (zmy m_X12_steer) ∈ zWT := z_i6 236 (by decide +kernel) rfl
def m_X12_allSteer : zM := (RX12, ⟨RX12, "allSteer", "(I)Z"⟩, prog_14_method_71_code, 2, (some FieldType.boolean))
set_option maxRecDepth 100000 in
theorem k_X12_allSteer : zMk m_X12_allSteer 1 := ⟨z_i7 17 rfl rfl, z_i1 13 (by decide +kernel) rfl, by decide +kernel, ⟨by decide +kernel, by decide +kernel⟩, by decide +kernel, rfl⟩
theorem ki_X12_allSteer : Cond.instanceMethod (zmy m_X12_allSteer) ∈ zWT := z_i7 16 (by decide +kernel) rfl
theorem ks_X12_allSteer : Cond.selects (zmy m_X12_allSteer).cls (zmy m_X12_allSteer) (zmy m_X12_allSteer) ∈ zWT := z_in 73 (by decide +kernel) rfl
def m_X12_areSafe : zM := (RX12, ⟨RX12, "areSafe", "(I)Z"⟩, prog_14_method_72_code, 3, (some FieldType.boolean))
set_option maxRecDepth 100000 in
theorem k_X12_areSafe : zMk m_X12_areSafe 1 := ⟨z_i7 21 rfl rfl, z_i1 13 (by decide +kernel) rfl, by decide +kernel, ⟨by decide +kernel, by decide +kernel⟩, by decide +kernel, rfl⟩
theorem ki_X12_areSafe : Cond.instanceMethod (zmy m_X12_areSafe) ∈ zWT := z_i7 20 (by decide +kernel) rfl
theorem ks_X12_areSafe : Cond.selects (zmy m_X12_areSafe).cls (zmy m_X12_areSafe) (zmy m_X12_areSafe) ∈ zWT := z_in 74 (by decide +kernel) rfl
def m_X12_thereBits : zM := (RX12, ⟨RX12, "thereBits", "()I"⟩, prog_14_method_73_code, 3, (some FieldType.int))
set_option maxRecDepth 100000 in
theorem k_X12_thereBits : zMk m_X12_thereBits 0 := ⟨z_i7 13 rfl rfl, z_i1 13 (by decide +kernel) rfl, by decide +kernel, ⟨by decide +kernel, by decide +kernel⟩, by decide +kernel, rfl⟩
theorem ki_X12_thereBits : Cond.instanceMethod (zmy m_X12_thereBits) ∈ zWT := z_i7 12 (by decide +kernel) rfl
theorem ks_X12_thereBits : Cond.selects (zmy m_X12_thereBits).cls (zmy m_X12_thereBits) (zmy m_X12_thereBits) ∈ zWT := z_in 72 (by decide +kernel) rfl
def m_X12_fewest : zM := (RX12, ⟨RX12, "fewest", "(I)I"⟩, prog_14_method_74_code, 5, (some FieldType.int))
set_option maxRecDepth 100000 in
theorem k_X12_fewest : zMk m_X12_fewest 1 := ⟨z_i7 9 rfl rfl, z_i1 13 (by decide +kernel) rfl, by decide +kernel, ⟨by decide +kernel, by decide +kernel⟩, by decide +kernel, rfl⟩
theorem ki_X12_fewest : Cond.instanceMethod (zmy m_X12_fewest) ∈ zWT := z_i7 7 (by decide +kernel) rfl
theorem ks_X12_fewest : Cond.selects (zmy m_X12_fewest).cls (zmy m_X12_fewest) (zmy m_X12_fewest) ∈ zWT := z_i7 8 (by decide +kernel) rfl
def m_X12_isHomeBy : zM := (RX12, ⟨RX12, "isHomeBy", "(II)Z"⟩, prog_14_method_75_code, 6, (some FieldType.boolean))
set_option maxRecDepth 100000 in
theorem k_X12_isHomeBy : zMk m_X12_isHomeBy 2 := ⟨z_i7 32 rfl rfl, z_i1 13 (by decide +kernel) rfl, by decide +kernel, ⟨by decide +kernel, by decide +kernel⟩, by decide +kernel, rfl⟩
theorem ki_X12_isHomeBy : Cond.instanceMethod (zmy m_X12_isHomeBy) ∈ zWT := z_i7 31 (by decide +kernel) rfl
theorem ks_X12_isHomeBy : Cond.selects (zmy m_X12_isHomeBy).cls (zmy m_X12_isHomeBy) (zmy m_X12_isHomeBy) ∈ zWT := z_in 75 (by decide +kernel) rfl
def m_X12_home : zM := (RX12, ⟨RX12, "home", "(II)I"⟩, prog_14_method_76_code, 7, (some FieldType.int))
set_option maxRecDepth 100000 in
theorem k_X12_home : zMk m_X12_home 2 := ⟨z_i7 28 rfl rfl, z_i1 13 (by decide +kernel) rfl, by decide +kernel, ⟨by decide +kernel, by decide +kernel⟩, by decide +kernel, rfl⟩
theorem ki_X12_home : Cond.instanceMethod (zmy m_X12_home) ∈ zWT := z_i7 26 (by decide +kernel) rfl
theorem ks_X12_home : Cond.selects (zmy m_X12_home).cls (zmy m_X12_home) (zmy m_X12_home) ∈ zWT := z_i7 27 (by decide +kernel) rfl
def m_X12_comesOn : zM := (RX12, ⟨RX12, "comesOn", "(IIIZ)Z"⟩, prog_14_method_77_code, 8, (some FieldType.boolean))
set_option maxRecDepth 100000 in
theorem k_X12_comesOn : zMk m_X12_comesOn 4 := ⟨z_i7 40 rfl rfl, z_i1 13 (by decide +kernel) rfl, by decide +kernel, ⟨by decide +kernel, by decide +kernel⟩, by decide +kernel, rfl⟩
theorem ki_X12_comesOn : Cond.instanceMethod (zmy m_X12_comesOn) ∈ zWT := z_i7 39 (by decide +kernel) rfl
theorem ks_X12_comesOn : Cond.selects (zmy m_X12_comesOn).cls (zmy m_X12_comesOn) (zmy m_X12_comesOn) ∈ zWT := z_in 76 (by decide +kernel) rfl
def m_X12_pattern : zM := (RX12, ⟨RX12, "pattern", "(II)I"⟩, prog_14_method_78_code, 7, (some FieldType.int))
set_option maxRecDepth 100000 in
theorem k_X12_pattern : zMk m_X12_pattern 2 := ⟨z_i7 36 rfl rfl, z_i1 13 (by decide +kernel) rfl, by decide +kernel, ⟨by decide +kernel, by decide +kernel⟩, by decide +kernel, rfl⟩
theorem ki_X12_pattern : Cond.instanceMethod (zmy m_X12_pattern) ∈ zWT := z_i7 34 (by decide +kernel) rfl
theorem ks_X12_pattern : Cond.selects (zmy m_X12_pattern).cls (zmy m_X12_pattern) (zmy m_X12_pattern) ∈ zWT := z_i7 35 (by decide +kernel) rfl
def m_X12_mayTurn : zM := (RX12, ⟨RX12, "mayTurn", "(IIZ)Z"⟩, prog_14_method_79_code, 4, (some FieldType.boolean))
set_option maxRecDepth 100000 in
theorem k_X12_mayTurn : zMk m_X12_mayTurn 3 := ⟨z_i7 52 rfl rfl, z_i1 13 (by decide +kernel) rfl, by decide +kernel, ⟨by decide +kernel, by decide +kernel⟩, by decide +kernel, rfl⟩
theorem ki_X12_mayTurn : Cond.instanceMethod (zmy m_X12_mayTurn) ∈ zWT := z_i7 51 (by decide +kernel) rfl
theorem ks_X12_mayTurn : Cond.selects (zmy m_X12_mayTurn).cls (zmy m_X12_mayTurn) (zmy m_X12_mayTurn) ∈ zWT := z_in 78 (by decide +kernel) rfl
def m_X12_bestOf : zM := (RX12, ⟨RX12, "bestOf", "(IIZ)I"⟩, prog_14_method_80_code, 7, (some FieldType.int))
set_option maxRecDepth 100000 in
theorem k_X12_bestOf : zMk m_X12_bestOf 3 := ⟨z_i7 48 rfl rfl, z_i1 13 (by decide +kernel) rfl, by decide +kernel, ⟨by decide +kernel, by decide +kernel⟩, by decide +kernel, rfl⟩
theorem ki_X12_bestOf : Cond.instanceMethod (zmy m_X12_bestOf) ∈ zWT := z_i7 47 (by decide +kernel) rfl
theorem ks_X12_bestOf : Cond.selects (zmy m_X12_bestOf).cls (zmy m_X12_bestOf) (zmy m_X12_bestOf) ∈ zWT := z_in 77 (by decide +kernel) rfl
def m_X12_byTurns : zM := (RX12, ⟨RX12, "byTurns", "(II)I"⟩, prog_14_method_81_code, 6, (some FieldType.int))
set_option maxRecDepth 100000 in
theorem k_X12_byTurns : zMk m_X12_byTurns 2 := ⟨z_i7 44 rfl rfl, z_i1 13 (by decide +kernel) rfl, by decide +kernel, ⟨by decide +kernel, by decide +kernel⟩, by decide +kernel, rfl⟩
theorem ki_X12_byTurns : Cond.instanceMethod (zmy m_X12_byTurns) ∈ zWT := z_i7 42 (by decide +kernel) rfl
theorem ks_X12_byTurns : Cond.selects (zmy m_X12_byTurns).cls (zmy m_X12_byTurns) (zmy m_X12_byTurns) ∈ zWT := z_i7 43 (by decide +kernel) rfl
def m_X12_drawn : zM := (RX12, ⟨RX12, "drawn", "(IIII)I"⟩, prog_14_method_82_code, 10, (some FieldType.int))
set_option maxRecDepth 100000 in
theorem k_X12_drawn : zMk m_X12_drawn 4 := ⟨z_i7 56 rfl rfl, z_i1 13 (by decide +kernel) rfl, by decide +kernel, ⟨by decide +kernel, by decide +kernel⟩, by decide +kernel, rfl⟩
theorem ki_X12_drawn : Cond.instanceMethod (zmy m_X12_drawn) ∈ zWT := z_i7 54 (by decide +kernel) rfl
theorem ks_X12_drawn : Cond.selects (zmy m_X12_drawn).cls (zmy m_X12_drawn) (zmy m_X12_drawn) ∈ zWT := z_i7 55 (by decide +kernel) rfl
def m_X12_passes : zM := (RX12, ⟨RX12, "passes", "(I)V"⟩, prog_14_method_83_code, 2, none)
set_option maxRecDepth 100000 in
theorem k_X12_passes : zMk m_X12_passes 1 := ⟨z_i7 65 rfl rfl, z_i1 13 (by decide +kernel) rfl, by decide +kernel, ⟨by decide +kernel, by decide +kernel⟩, by decide +kernel, rfl⟩
theorem ki_X12_passes : Cond.instanceMethod (zmy m_X12_passes) ∈ zWT := z_i7 64 (by decide +kernel) rfl
theorem ks_X12_passes : Cond.selects (zmy m_X12_passes).cls (zmy m_X12_passes) (zmy m_X12_passes) ∈ zWT := z_in 79 (by decide +kernel) rfl
def m_X12_fling : zM := (RX12, ⟨RX12, "fling", "(I)I"⟩, prog_14_method_84_code, 5, (some FieldType.int))
set_option maxRecDepth 100000 in
theorem k_X12_fling : zMk m_X12_fling 1 := ⟨z_i7 61 rfl rfl, z_i1 13 (by decide +kernel) rfl, by decide +kernel, ⟨by decide +kernel, by decide +kernel⟩, by decide +kernel, rfl⟩
theorem ki_X12_fling : Cond.instanceMethod (zmy m_X12_fling) ∈ zWT := z_i7 59 (by decide +kernel) rfl
theorem ks_X12_fling : Cond.selects (zmy m_X12_fling).cls (zmy m_X12_fling) (zmy m_X12_fling) ∈ zWT := z_i7 60 (by decide +kernel) rfl
def m_X12_pass : zM := (RX12, ⟨RX12, "pass", "(I)I"⟩, prog_14_method_85_code, 4, (some FieldType.int))
set_option maxRecDepth 100000 in
theorem k_X12_pass : zMk m_X12_pass 1 := ⟨z_i7 69 rfl rfl, z_i1 13 (by decide +kernel) rfl, by decide +kernel, ⟨by decide +kernel, by decide +kernel⟩, by decide +kernel, rfl⟩
theorem ki_X12_pass : Cond.instanceMethod (zmy m_X12_pass) ∈ zWT := z_i7 67 (by decide +kernel) rfl
theorem ks_X12_pass : Cond.selects (zmy m_X12_pass).cls (zmy m_X12_pass) (zmy m_X12_pass) ∈ zWT := z_i7 68 (by decide +kernel) rfl
def m_X12_pocket : zM := (RX12, ⟨RX12, "pocket", "(I)I"⟩, prog_14_method_86_code, 3, (some FieldType.int))
set_option maxRecDepth 100000 in
theorem k_X12_pocket : zMk m_X12_pocket 1 := ⟨z_i7 73 rfl rfl, z_i1 13 (by decide +kernel) rfl, by decide +kernel, ⟨by decide +kernel, by decide +kernel⟩, by decide +kernel, rfl⟩
theorem ki_X12_pocket : Cond.instanceMethod (zmy m_X12_pocket) ∈ zWT := z_i7 71 (by decide +kernel) rfl
theorem ks_X12_pocket : Cond.selects (zmy m_X12_pocket).cls (zmy m_X12_pocket) (zmy m_X12_pocket) ∈ zWT := z_i7 72 (by decide +kernel) rfl
def m_X12_led : zM := (RX12, ⟨RX12, "led", "(I)I"⟩, prog_14_method_87_code, 2, (some FieldType.int))
set_option maxRecDepth 100000 in
theorem k_X12_led : zMk m_X12_led 1 := ⟨z_i7 77 rfl rfl, z_i1 13 (by decide +kernel) rfl, by decide +kernel, ⟨by decide +kernel, by decide +kernel⟩, by decide +kernel, rfl⟩
theorem ki_X12_led : Cond.instanceMethod (zmy m_X12_led) ∈ zWT := z_i7 75 (by decide +kernel) rfl
theorem ks_X12_led : Cond.selects (zmy m_X12_led).cls (zmy m_X12_led) (zmy m_X12_led) ∈ zWT := z_i7 76 (by decide +kernel) rfl
def m_X12_image : zM := (RX12, ⟨RX12, "image", "()I"⟩, prog_14_method_88_code, 2, (some FieldType.int))
set_option maxRecDepth 100000 in
theorem k_X12_image : zMk m_X12_image 0 := ⟨z_i7 81 rfl rfl, z_i1 13 (by decide +kernel) rfl, by decide +kernel, ⟨by decide +kernel, by decide +kernel⟩, by decide +kernel, rfl⟩
theorem ki_X12_image : Cond.instanceMethod (zmy m_X12_image) ∈ zWT := z_i7 79 (by decide +kernel) rfl
theorem ks_X12_image : Cond.selects (zmy m_X12_image).cls (zmy m_X12_image) (zmy m_X12_image) ∈ zWT := z_i7 80 (by decide +kernel) rfl
def m_X12_back : zM := (RX12, ⟨RX12, "back", "()I"⟩, prog_14_method_89_code, 2, (some FieldType.int))
set_option maxRecDepth 100000 in
theorem k_X12_back : zMk m_X12_back 0 := ⟨z_i7 85 rfl rfl, z_i1 13 (by decide +kernel) rfl, by decide +kernel, ⟨by decide +kernel, by decide +kernel⟩, by decide +kernel, rfl⟩
theorem ki_X12_back : Cond.instanceMethod (zmy m_X12_back) ∈ zWT := z_i7 83 (by decide +kernel) rfl
theorem ks_X12_back : Cond.selects (zmy m_X12_back).cls (zmy m_X12_back) (zmy m_X12_back) ∈ zWT := z_i7 84 (by decide +kernel) rfl
def m_X12_isBody : zM := (RX12, ⟨RX12, "isBody", "(I)Z"⟩, prog_14_method_90_code, 2, (some FieldType.boolean))
set_option maxRecDepth 100000 in
theorem k_X12_isBody : zMk m_X12_isBody 1 := ⟨z_i7 101 rfl rfl, z_i1 13 (by decide +kernel) rfl, by decide +kernel, ⟨by decide +kernel, by decide +kernel⟩, by decide +kernel, rfl⟩
theorem ki_X12_isBody : Cond.instanceMethod (zmy m_X12_isBody) ∈ zWT := z_i7 100 (by decide +kernel) rfl
theorem ks_X12_isBody : Cond.selects (zmy m_X12_isBody).cls (zmy m_X12_isBody) (zmy m_X12_isBody) ∈ zWT := z_in 80 (by decide +kernel) rfl
def m_X12_ran : zM := (RX12, ⟨RX12, "ran", "(I)V"⟩, prog_14_method_91_code, 2, none)
set_option maxRecDepth 100000 in
theorem k_X12_ran : zMk m_X12_ran 1 := ⟨z_i7 112 rfl rfl, z_i1 13 (by decide +kernel) rfl, by decide +kernel, ⟨by decide +kernel, by decide +kernel⟩, by decide +kernel, rfl⟩
theorem ki_X12_ran : Cond.instanceMethod (zmy m_X12_ran) ∈ zWT := z_i7 111 (by decide +kernel) rfl
theorem ks_X12_ran : Cond.selects (zmy m_X12_ran).cls (zmy m_X12_ran) (zmy m_X12_ran) ∈ zWT := z_in 82 (by decide +kernel) rfl
def m_X12_trace : zM := (RX12, ⟨RX12, "trace", "(I)I"⟩, prog_14_method_92_code, 2, (some FieldType.int))
set_option maxRecDepth 100000 in
theorem k_X12_trace : zMk m_X12_trace 1 := ⟨z_i7 89 rfl rfl, z_i1 13 (by decide +kernel) rfl, by decide +kernel, ⟨by decide +kernel, by decide +kernel⟩, by decide +kernel, rfl⟩
theorem ki_X12_trace : Cond.instanceMethod (zmy m_X12_trace) ∈ zWT := z_i7 87 (by decide +kernel) rfl
theorem ks_X12_trace : Cond.selects (zmy m_X12_trace).cls (zmy m_X12_trace) (zmy m_X12_trace) ∈ zWT := z_i7 88 (by decide +kernel) rfl
def m_X12_body : zM := (RX12, ⟨RX12, "body", "(I)I"⟩, prog_14_method_93_code, 2, (some FieldType.int))
set_option maxRecDepth 100000 in
theorem k_X12_body : zMk m_X12_body 1 := ⟨z_i7 93 rfl rfl, z_i1 13 (by decide +kernel) rfl, by decide +kernel, ⟨by decide +kernel, by decide +kernel⟩, by decide +kernel, rfl⟩
theorem ki_X12_body : Cond.instanceMethod (zmy m_X12_body) ∈ zWT := z_i7 91 (by decide +kernel) rfl
theorem ks_X12_body : Cond.selects (zmy m_X12_body).cls (zmy m_X12_body) (zmy m_X12_body) ∈ zWT := z_i7 92 (by decide +kernel) rfl
def m_X12_isUnder : zM := (RX12, ⟨RX12, "isUnder", "(II)Z"⟩, prog_14_method_94_code, 2, (some FieldType.boolean))
set_option maxRecDepth 100000 in
theorem k_X12_isUnder : zMk m_X12_isUnder 2 := ⟨z_i7 108 rfl rfl, z_i1 13 (by decide +kernel) rfl, by decide +kernel, ⟨by decide +kernel, by decide +kernel⟩, by decide +kernel, rfl⟩
theorem kt_X12_isUnder : Cond.static (zmy m_X12_isUnder) ∈ zWT := z_i7 107 (by decide +kernel) rfl
def m_X12_plainSticks : zM := (RX12, ⟨RX12, "plainSticks", "(II)I"⟩, prog_14_method_95_code, 3, (some FieldType.int))
set_option maxRecDepth 100000 in
theorem k_X12_plainSticks : zMk m_X12_plainSticks 2 := ⟨z_i7 116 rfl rfl, z_i1 13 (by decide +kernel) rfl, by decide +kernel, ⟨by decide +kernel, by decide +kernel⟩, by decide +kernel, rfl⟩
theorem ki_X12_plainSticks : Cond.instanceMethod (zmy m_X12_plainSticks) ∈ zWT := z_i7 115 (by decide +kernel) rfl
theorem ks_X12_plainSticks : Cond.selects (zmy m_X12_plainSticks).cls (zmy m_X12_plainSticks) (zmy m_X12_plainSticks) ∈ zWT := z_in 83 (by decide +kernel) rfl
def m_X12_gooleSticks : zM := (RX12, ⟨RX12, "gooleSticks", "(II)I"⟩, prog_14_method_96_code, 3, (some FieldType.int))
set_option maxRecDepth 100000 in
theorem k_X12_gooleSticks : zMk m_X12_gooleSticks 2 := ⟨z_i7 120 rfl rfl, z_i1 13 (by decide +kernel) rfl, by decide +kernel, ⟨by decide +kernel, by decide +kernel⟩, by decide +kernel, rfl⟩
theorem ki_X12_gooleSticks : Cond.instanceMethod (zmy m_X12_gooleSticks) ∈ zWT := z_i7 119 (by decide +kernel) rfl
theorem ks_X12_gooleSticks : Cond.selects (zmy m_X12_gooleSticks).cls (zmy m_X12_gooleSticks) (zmy m_X12_gooleSticks) ∈ zWT := z_in 84 (by decide +kernel) rfl
def m_X12_sticking : zM := (RX12, ⟨RX12, "sticking", "(II)I"⟩, prog_14_method_97_code, 3, (some FieldType.int))
set_option maxRecDepth 100000 in
theorem k_X12_sticking : zMk m_X12_sticking 2 := ⟨z_i7 105 rfl rfl, z_i1 13 (by decide +kernel) rfl, by decide +kernel, ⟨by decide +kernel, by decide +kernel⟩, by decide +kernel, rfl⟩
theorem ki_X12_sticking : Cond.instanceMethod (zmy m_X12_sticking) ∈ zWT := z_i7 104 (by decide +kernel) rfl
theorem ks_X12_sticking : Cond.selects (zmy m_X12_sticking).cls (zmy m_X12_sticking) (zmy m_X12_sticking) ∈ zWT := z_in 81 (by decide +kernel) rfl
def m_X12_plainDrops : zM := (RX12, ⟨RX12, "plainDrops", "(II)I"⟩, prog_14_method_98_code, 3, (some FieldType.int))
set_option maxRecDepth 100000 in
theorem k_X12_plainDrops : zMk m_X12_plainDrops 2 := ⟨z_i7 132 rfl rfl, z_i1 13 (by decide +kernel) rfl, by decide +kernel, ⟨by decide +kernel, by decide +kernel⟩, by decide +kernel, rfl⟩
theorem ki_X12_plainDrops : Cond.instanceMethod (zmy m_X12_plainDrops) ∈ zWT := z_i7 131 (by decide +kernel) rfl
theorem ks_X12_plainDrops : Cond.selects (zmy m_X12_plainDrops).cls (zmy m_X12_plainDrops) (zmy m_X12_plainDrops) ∈ zWT := z_in 87 (by decide +kernel) rfl
def m_X12_heapDrops : zM := (RX12, ⟨RX12, "heapDrops", "(II)I"⟩, prog_14_method_99_code, 3, (some FieldType.int))
set_option maxRecDepth 100000 in
theorem k_X12_heapDrops : zMk m_X12_heapDrops 2 := ⟨z_i7 128 rfl rfl, z_i1 13 (by decide +kernel) rfl, by decide +kernel, ⟨by decide +kernel, by decide +kernel⟩, by decide +kernel, rfl⟩
theorem ki_X12_heapDrops : Cond.instanceMethod (zmy m_X12_heapDrops) ∈ zWT := z_i7 127 (by decide +kernel) rfl
theorem ks_X12_heapDrops : Cond.selects (zmy m_X12_heapDrops).cls (zmy m_X12_heapDrops) (zmy m_X12_heapDrops) ∈ zWT := z_in 86 (by decide +kernel) rfl
def m_X12_dropping : zM := (RX12, ⟨RX12, "dropping", "(II)I"⟩, prog_14_method_100_code, 4, (some FieldType.int))
set_option maxRecDepth 100000 in
theorem k_X12_dropping : zMk m_X12_dropping 2 := ⟨z_i7 124 rfl rfl, z_i1 13 (by decide +kernel) rfl, by decide +kernel, ⟨by decide +kernel, by decide +kernel⟩, by decide +kernel, rfl⟩
theorem ki_X12_dropping : Cond.instanceMethod (zmy m_X12_dropping) ∈ zWT := z_i7 123 (by decide +kernel) rfl
theorem ks_X12_dropping : Cond.selects (zmy m_X12_dropping).cls (zmy m_X12_dropping) (zmy m_X12_dropping) ∈ zWT := z_in 85 (by decide +kernel) rfl
def m_X12_plainLies : zM := (RX12, ⟨RX12, "plainLies", "(II)I"⟩, prog_14_method_101_code, 3, (some FieldType.int))
set_option maxRecDepth 100000 in
theorem k_X12_plainLies : zMk m_X12_plainLies 2 := ⟨z_i7 144 rfl rfl, z_i1 13 (by decide +kernel) rfl, by decide +kernel, ⟨by decide +kernel, by decide +kernel⟩, by decide +kernel, rfl⟩
theorem ki_X12_plainLies : Cond.instanceMethod (zmy m_X12_plainLies) ∈ zWT := z_i7 143 (by decide +kernel) rfl
theorem ks_X12_plainLies : Cond.selects (zmy m_X12_plainLies).cls (zmy m_X12_plainLies) (zmy m_X12_plainLies) ∈ zWT := z_in 90 (by decide +kernel) rfl
def m_X12_flingLies : zM := (RX12, ⟨RX12, "flingLies", "(II)I"⟩, prog_14_method_102_code, 3, (some FieldType.int))
set_option maxRecDepth 100000 in
theorem k_X12_flingLies : zMk m_X12_flingLies 2 := ⟨z_i7 140 rfl rfl, z_i1 13 (by decide +kernel) rfl, by decide +kernel, ⟨by decide +kernel, by decide +kernel⟩, by decide +kernel, rfl⟩
theorem ki_X12_flingLies : Cond.instanceMethod (zmy m_X12_flingLies) ∈ zWT := z_i7 139 (by decide +kernel) rfl
theorem ks_X12_flingLies : Cond.selects (zmy m_X12_flingLies).cls (zmy m_X12_flingLies) (zmy m_X12_flingLies) ∈ zWT := z_in 89 (by decide +kernel) rfl
def m_X12_lying : zM := (RX12, ⟨RX12, "lying", "(II)I"⟩, prog_14_method_103_code, 4, (some FieldType.int))
set_option maxRecDepth 100000 in
theorem k_X12_lying : zMk m_X12_lying 2 := ⟨z_i7 136 rfl rfl, z_i1 13 (by decide +kernel) rfl, by decide +kernel, ⟨by decide +kernel, by decide +kernel⟩, by decide +kernel, rfl⟩
theorem ki_X12_lying : Cond.instanceMethod (zmy m_X12_lying) ∈ zWT := z_i7 135 (by decide +kernel) rfl
theorem ks_X12_lying : Cond.selects (zmy m_X12_lying).cls (zmy m_X12_lying) (zmy m_X12_lying) ∈ zWT := z_in 88 (by decide +kernel) rfl
def m_X12_plainTells : zM := (RX12, ⟨RX12, "plainTells", "(II)I"⟩, prog_14_method_104_code, 4, (some FieldType.int))
set_option maxRecDepth 100000 in
theorem k_X12_plainTells : zMk m_X12_plainTells 2 := ⟨z_i7 152 rfl rfl, z_i1 13 (by decide +kernel) rfl, by decide +kernel, ⟨by decide +kernel, by decide +kernel⟩, by decide +kernel, rfl⟩
theorem ki_X12_plainTells : Cond.instanceMethod (zmy m_X12_plainTells) ∈ zWT := z_i7 151 (by decide +kernel) rfl
theorem ks_X12_plainTells : Cond.selects (zmy m_X12_plainTells).cls (zmy m_X12_plainTells) (zmy m_X12_plainTells) ∈ zWT := z_in 92 (by decide +kernel) rfl
def m_X12_telling : zM := (RX12, ⟨RX12, "telling", "(II)I"⟩, prog_14_method_105_code, 3, (some FieldType.int))
set_option maxRecDepth 100000 in
theorem k_X12_telling : zMk m_X12_telling 2 := ⟨z_i7 148 rfl rfl, z_i1 13 (by decide +kernel) rfl, by decide +kernel, ⟨by decide +kernel, by decide +kernel⟩, by decide +kernel, rfl⟩
theorem ki_X12_telling : Cond.instanceMethod (zmy m_X12_telling) ∈ zWT := z_i7 147 (by decide +kernel) rfl
theorem ks_X12_telling : Cond.selects (zmy m_X12_telling).cls (zmy m_X12_telling) (zmy m_X12_telling) ∈ zWT := z_in 91 (by decide +kernel) rfl
def m_X12_act : zM := (RX12, ⟨RX12, "act", "(III)I"⟩, prog_14_method_106_code, 4, (some FieldType.int))
set_option maxRecDepth 100000 in
theorem k_X12_act : zMk m_X12_act 3 := ⟨z_i7 97 rfl rfl, z_i1 13 (by decide +kernel) rfl, by decide +kernel, ⟨by decide +kernel, by decide +kernel⟩, by decide +kernel, rfl⟩
theorem ki_X12_act : Cond.instanceMethod (zmy m_X12_act) ∈ zWT := z_i7 95 (by decide +kernel) rfl
theorem ks_X12_act : Cond.selects (zmy m_X12_act).cls (zmy m_X12_act) (zmy m_X12_act) ∈ zWT := z_i7 96 (by decide +kernel) rfl
def m_X12_count : zM := (RX12, ⟨RX12, "count", "(I)I"⟩, prog_14_method_107_code, 2, (some FieldType.int))
set_option maxRecDepth 100000 in
theorem k_X12_count : zMk m_X12_count 1 := ⟨z_i7 156 rfl rfl, z_i1 13 (by decide +kernel) rfl, by decide +kernel, ⟨by decide +kernel, by decide +kernel⟩, by decide +kernel, rfl⟩
theorem ki_X12_count : Cond.instanceMethod (zmy m_X12_count) ∈ zWT := z_i7 154 (by decide +kernel) rfl
theorem ks_X12_count : Cond.selects (zmy m_X12_count).cls (zmy m_X12_count) (zmy m_X12_count) ∈ zWT := z_i7 155 (by decide +kernel) rfl
def m_X12_isShelf : zM := (RX12, ⟨RX12, "isShelf", "(I)Z"⟩, prog_14_method_108_code, 1, (some FieldType.boolean))
set_option maxRecDepth 100000 in
theorem k_X12_isShelf : zMk m_X12_isShelf 1 := ⟨z_i6 1 rfl rfl, z_i1 13 (by decide +kernel) rfl, by decide +kernel, ⟨by decide +kernel, by decide +kernel⟩, by decide +kernel, rfl⟩
theorem kt_X12_isShelf : Cond.static (zmy m_X12_isShelf) ∈ zWT := z_i6 0 (by decide +kernel) rfl
def m_X12_keep : zM := (RX12, ⟨RX12, "keep", "(II)I"⟩, prog_14_method_109_code, 3, (some FieldType.int))
set_option maxRecDepth 100000 in
theorem k_X12_keep : zMk m_X12_keep 2 := ⟨z_i7 160 rfl rfl, z_i1 13 (by decide +kernel) rfl, by decide +kernel, ⟨by decide +kernel, by decide +kernel⟩, by decide +kernel, rfl⟩
theorem ki_X12_keep : Cond.instanceMethod (zmy m_X12_keep) ∈ zWT := z_i7 158 (by decide +kernel) rfl
theorem ks_X12_keep : Cond.selects (zmy m_X12_keep).cls (zmy m_X12_keep) (zmy m_X12_keep) ∈ zWT := z_i7 159 (by decide +kernel) rfl
def m_X12_row : zM := (RX12, ⟨RX12, "row", "(III)I"⟩, prog_14_method_110_code, 5, (some FieldType.int))
set_option maxRecDepth 100000 in
theorem k_X12_row : zMk m_X12_row 3 := ⟨z_i7 164 rfl rfl, z_i1 13 (by decide +kernel) rfl, by decide +kernel, ⟨by decide +kernel, by decide +kernel⟩, by decide +kernel, rfl⟩
theorem ki_X12_row : Cond.instanceMethod (zmy m_X12_row) ∈ zWT := z_i7 162 (by decide +kernel) rfl
theorem ks_X12_row : Cond.selects (zmy m_X12_row).cls (zmy m_X12_row) (zmy m_X12_row) ∈ zWT := z_i7 163 (by decide +kernel) rfl
def m_X12_whyNoPlace : zM := (RX12, ⟨RX12, "whyNoPlace", "(II)I"⟩, prog_14_method_111_code, 3, (some FieldType.int))
set_option maxRecDepth 100000 in
theorem k_X12_whyNoPlace : zMk m_X12_whyNoPlace 2 := ⟨z_i7 172 rfl rfl, z_i1 13 (by decide +kernel) rfl, by decide +kernel, ⟨by decide +kernel, by decide +kernel⟩, by decide +kernel, rfl⟩
theorem ki_X12_whyNoPlace : Cond.instanceMethod (zmy m_X12_whyNoPlace) ∈ zWT := z_i7 171 (by decide +kernel) rfl
theorem ks_X12_whyNoPlace : Cond.selects (zmy m_X12_whyNoPlace).cls (zmy m_X12_whyNoPlace) (zmy m_X12_whyNoPlace) ∈ zWT := z_in 93 (by decide +kernel) rfl
def m_X12_put : zM := (RX12, ⟨RX12, "put", "(IIJ)I"⟩, prog_14_method_112_code, 7, (some FieldType.int))
set_option maxRecDepth 100000 in
theorem k_X12_put : zMk m_X12_put 3 := ⟨z_i7 168 rfl rfl, z_i1 13 (by decide +kernel) rfl, by decide +kernel, ⟨by decide +kernel, by decide +kernel⟩, by decide +kernel, rfl⟩
theorem ki_X12_put : Cond.instanceMethod (zmy m_X12_put) ∈ zWT := z_i7 166 (by decide +kernel) rfl
theorem ks_X12_put : Cond.selects (zmy m_X12_put).cls (zmy m_X12_put) (zmy m_X12_put) ∈ zWT := z_i7 167 (by decide +kernel) rfl
def m_X12_element : zM := (RX12, ⟨RX12, "element", "(II)J"⟩, prog_14_method_113_code, 3, (some FieldType.long))
set_option maxRecDepth 100000 in
theorem k_X12_element : zMk m_X12_element 2 := ⟨z_i7 176 rfl rfl, z_i1 13 (by decide +kernel) rfl, by decide +kernel, ⟨by decide +kernel, by decide +kernel⟩, by decide +kernel, rfl⟩
theorem ki_X12_element : Cond.instanceMethod (zmy m_X12_element) ∈ zWT := z_i7 174 (by decide +kernel) rfl
theorem ks_X12_element : Cond.selects (zmy m_X12_element).cls (zmy m_X12_element) (zmy m_X12_element) ∈ zWT := z_i7 175 (by decide +kernel) rfl
def m_X12_shift : zM := (RX12, ⟨RX12, "shift", "(IIIII)I"⟩, prog_14_method_114_code, 7, (some FieldType.int))
set_option maxRecDepth 100000 in
theorem k_X12_shift : zMk m_X12_shift 5 := ⟨z_i7 180 rfl rfl, z_i1 13 (by decide +kernel) rfl, by decide +kernel, ⟨by decide +kernel, by decide +kernel⟩, by decide +kernel, rfl⟩
theorem ki_X12_shift : Cond.instanceMethod (zmy m_X12_shift) ∈ zWT := z_i7 178 (by decide +kernel) rfl
theorem ks_X12_shift : Cond.selects (zmy m_X12_shift).cls (zmy m_X12_shift) (zmy m_X12_shift) ∈ zWT := z_i7 179 (by decide +kernel) rfl
def m_X12_taken : zM := (RX12, ⟨RX12, "taken", "(II)I"⟩, prog_14_method_115_code, 3, (some FieldType.int))
set_option maxRecDepth 100000 in
theorem k_X12_taken : zMk m_X12_taken 2 := ⟨z_i7 184 rfl rfl, z_i1 13 (by decide +kernel) rfl, by decide +kernel, ⟨by decide +kernel, by decide +kernel⟩, by decide +kernel, rfl⟩
theorem ki_X12_taken : Cond.instanceMethod (zmy m_X12_taken) ∈ zWT := z_i7 182 (by decide +kernel) rfl
theorem ks_X12_taken : Cond.selects (zmy m_X12_taken).cls (zmy m_X12_taken) (zmy m_X12_taken) ∈ zWT := z_i7 183 (by decide +kernel) rfl
def m_J6_bitCount : zM := (RJ6, ⟨RJ6, "bitCount", "(I)I"⟩, prog_15_method_49_code, 1, (some FieldType.int))
set_option maxRecDepth 100000 in
theorem k_J6_bitCount : zMk m_J6_bitCount 1 := ⟨z_i3 161 rfl rfl, z_i1 16 (by decide +kernel) rfl, by decide +kernel, ⟨by decide +kernel, by decide +kernel⟩, by decide +kernel, rfl⟩
theorem kt_J6_bitCount : Cond.static (zmy m_J6_bitCount) ∈ zWT := z_i3 160 (by decide +kernel) rfl
def m_J9_max : zM := (RJ9, ⟨RJ9, "max", "(II)I"⟩, prog_16_method_65_code, 2, some .int)
set_option maxRecDepth 100000 in
theorem kc_J9_max : Cond.code (zmy m_J9_max) (zmc m_J9_max) 2 (some .int) ∈ zWT := z_i3 96 rfl rfl
theorem kt_J9_max : Cond.static (zmy m_J9_max) ∈ zWT := z_i3 95 (by decide +kernel) rfl
def m_J9_min : zM := (RJ9, ⟨RJ9, "min", "(II)I"⟩, prog_16_method_69_code, 2, some .int)
set_option maxRecDepth 100000 in
theorem kc_J9_min : Cond.code (zmy m_J9_min) (zmc m_J9_min) 2 (some .int) ∈ zWT := z_i3 105 rfl rfl
theorem kt_J9_min : Cond.static (zmy m_J9_min) ∈ zWT := z_i3 104 (by decide +kernel) rfl
theorem ml_L_9 : Cond.methodLink RL 9 (zmy m_X11_init) ∈ zWT := z_i1 19 (by decide +kernel) rfl
theorem ml_X11_1 : Cond.methodLink RX11 1 objectInit ∈ zWT := z_i1 22 (by decide +kernel) rfl
theorem ml_X11_9 : Cond.methodLink RX11 9 (zmy m_X9_init) ∈ zWT := z_i1 27 (by decide +kernel) rfl
theorem ml_X9_3 : Cond.methodLink RX9 3 objectInit ∈ zWT := z_i1 30 (by decide +kernel) rfl
theorem ml_X11_18 : Cond.methodLink RX11 18 (zmy m_X4_init) ∈ zWT := z_i1 65 (by decide +kernel) rfl
theorem ml_X4_1 : Cond.methodLink RX4 1 objectInit ∈ zWT := z_i1 68 (by decide +kernel) rfl
theorem ml_X11_27 : Cond.methodLink RX11 27 (zmy m_X2_init) ∈ zWT := z_i1 103 (by decide +kernel) rfl
theorem ml_X2_3 : Cond.methodLink RX2 3 objectInit ∈ zWT := z_i1 106 (by decide +kernel) rfl
theorem ml_X11_34 : Cond.methodLink RX11 34 (zmy m_X3_init) ∈ zWT := z_i1 130 (by decide +kernel) rfl
theorem ml_X3_3 : Cond.methodLink RX3 3 objectInit ∈ zWT := z_i1 133 (by decide +kernel) rfl
theorem ml_X7_1 : Cond.methodLink RX7 1 objectInit ∈ zWT := z_i1 154 (by decide +kernel) rfl
theorem ml_X10_3 : Cond.methodLink RX10 3 objectInit ∈ zWT := z_i1 187 (by decide +kernel) rfl
theorem ml_X1_3 : Cond.methodLink RX1 3 objectInit ∈ zWT := z_i1 207 (by decide +kernel) rfl
theorem ml_X5_1 : Cond.methodLink RX5 1 objectInit ∈ zWT := z_i1 233 (by decide +kernel) rfl
theorem ml_X0_3 : Cond.methodLink RX0 3 objectInit ∈ zWT := z_i2 22 (by decide +kernel) rfl
theorem ml_X8_3 : Cond.methodLink RX8 3 objectInit ∈ zWT := z_i2 45 (by decide +kernel) rfl
theorem ml_X6_1 : Cond.methodLink RX6 1 objectInit ∈ zWT := z_i2 68 (by decide +kernel) rfl
theorem ml_L_13 : Cond.methodLink RL 13 (zmy m_X11_star) ∈ zWT := z_i2 123 (by decide +kernel) rfl
theorem ml_X11_91 : Cond.methodLink RX11 91 (zmy m_X9_addStar) ∈ zWT := z_i2 127 (by decide +kernel) rfl
theorem ml_X9_50 : Cond.methodLink RX9 50 (zmy m_X9_mayBe) ∈ zWT := z_i2 131 (by decide +kernel) rfl
theorem ml_X9_47 : Cond.methodLink RX9 47 (zmy m_X9_starIn) ∈ zWT := z_i2 139 (by decide +kernel) rfl
theorem ml_X9_53 : Cond.methodLink RX9 53 (zmy m_X9_set) ∈ zWT := z_i2 143 (by decide +kernel) rfl
theorem ml_X9_43 : Cond.methodLink RX9 43 (zmy m_X9_has) ∈ zWT := z_i2 147 (by decide +kernel) rfl
theorem ml_X9_33 : Cond.methodLink RX9 33 (zmy m_X9_holders) ∈ zWT := z_i2 151 (by decide +kernel) rfl
theorem ml_L_18 : Cond.methodLink RL 18 (zmy m_X11_stars) ∈ zWT := z_i2 155 (by decide +kernel) rfl
theorem ml_X11_95 : Cond.methodLink RX11 95 (zmy m_X11_shelfAt) ∈ zWT := z_i2 159 (by decide +kernel) rfl
theorem ml_X11_99 : Cond.methodLink RX11 99 (zmy m_X8_isEmpty) ∈ zWT := z_i2 163 (by decide +kernel) rfl
theorem ml_X11_103 : Cond.methodLink RX11 103 (zmy m_X8_isBytes) ∈ zWT := z_i2 167 (by decide +kernel) rfl
theorem ml_X11_106 : Cond.methodLink RX11 106 (zmy m_X11_starCame) ∈ zWT := z_i2 171 (by decide +kernel) rfl
theorem ml_X11_335 : Cond.methodLink RX11 335 (zmy m_X8_hasPlace) ∈ zWT := z_i2 175 (by decide +kernel) rfl
theorem ml_X11_383 : Cond.methodLink RX11 383 (zmy m_X8_told) ∈ zWT := z_i2 179 (by decide +kernel) rfl
theorem ml_X8_38 : Cond.methodLink RX8 38 (zmy m_X8_hasPlace) ∈ zWT := z_i2 183 (by decide +kernel) rfl
theorem ml_L_23 : Cond.methodLink RL 23 (zmy m_X11_thrower) ∈ zWT := z_i2 184 (by decide +kernel) rfl
theorem ml_X11_110 : Cond.methodLink RX11 110 (zmy m_X9_addThrower) ∈ zWT := z_i2 188 (by decide +kernel) rfl
theorem ml_L_27 : Cond.methodLink RL 27 (zmy m_X11_ship) ∈ zWT := z_i2 192 (by decide +kernel) rfl
theorem ml_X11_114 : Cond.methodLink RX11 114 (zmy m_X9_addShip) ∈ zWT := z_i2 196 (by decide +kernel) rfl
theorem ml_L_31 : Cond.methodLink RL 31 (zmy m_X11_mend) ∈ zWT := z_i2 200 (by decide +kernel) rfl
theorem ml_X11_117 : Cond.methodLink RX11 117 (zmy m_X9_has) ∈ zWT := z_i2 204 (by decide +kernel) rfl
theorem ml_X11_121 : Cond.methodLink RX11 121 (zmy m_X9_mayBe) ∈ zWT := z_i2 205 (by decide +kernel) rfl
theorem ml_X11_125 : Cond.methodLink RX11 125 (zmy m_X9_isTakenByOther) ∈ zWT := z_i2 207 (by decide +kernel) rfl
theorem ml_X11_128 : Cond.methodLink RX11 128 (zmy m_X9_get) ∈ zWT := z_i2 211 (by decide +kernel) rfl
theorem ml_X11_132 : Cond.methodLink RX11 132 (zmy m_X9_set) ∈ zWT := z_i2 215 (by decide +kernel) rfl
theorem ml_X11_136 : Cond.methodLink RX11 136 (zmy m_X1_add) ∈ zWT := z_i2 216 (by decide +kernel) rfl
theorem ml_X1_28 : Cond.methodLink RX1 28 (zmy m_X1_forgetOldest) ∈ zWT := z_i2 220 (by decide +kernel) rfl
theorem ml_X1_34 : Cond.methodLink RX1 34 arraycopyName ∈ zWT := z_i2 224 (by decide +kernel) rfl
theorem ml_L_35 : Cond.methodLink RL 35 (zmy m_X11_of) ∈ zWT := z_i2 227 (by decide +kernel) rfl
theorem ml_X11_140 : Cond.methodLink RX11 140 (zmy m_X9_starIn) ∈ zWT := z_i2 231 (by decide +kernel) rfl
theorem ml_L_40 : Cond.methodLink RL 40 (zmy m_X11_feed) ∈ zWT := z_i2 232 (by decide +kernel) rfl
theorem ml_X11_143 : Cond.methodLink RX11 143 (zmy m_X10_add) ∈ zWT := z_i2 236 (by decide +kernel) rfl
theorem ml_L_44 : Cond.methodLink RL 44 (zmy m_X11_law) ∈ zWT := z_i3 0 (by decide +kernel) rfl
theorem ml_X11_145 : Cond.methodLink RX11 145 (zmy m_X10_faultInto) ∈ zWT := z_i3 4 (by decide +kernel) rfl
theorem ml_X10_19 : Cond.methodLink RX10 19 (zmy m_X6_clear) ∈ zWT := z_i3 8 (by decide +kernel) rfl
theorem ml_X10_31 : Cond.methodLink RX10 31 (zmy m_X10_readLine) ∈ zWT := z_i3 12 (by decide +kernel) rfl
theorem ml_X10_39 : Cond.methodLink RX10 39 (zmy m_X10_readJoined) ∈ zWT := z_i3 16 (by decide +kernel) rfl
theorem ml_X10_54 : Cond.methodLink RX10 54 (zmy m_X10_readPart) ∈ zWT := z_i3 20 (by decide +kernel) rfl
theorem ml_X10_61 : Cond.methodLink RX10 61 (zmy m_X10_readOperand) ∈ zWT := z_i3 24 (by decide +kernel) rfl
theorem ml_X10_35 : Cond.methodLink RX10 35 (zmy m_X10_here) ∈ zWT := z_i3 28 (by decide +kernel) rfl
theorem ml_X10_65 : Cond.methodLink RX10 65 (zmy m_X10_readBracketed) ∈ zWT := z_i3 32 (by decide +kernel) rfl
theorem ml_X10_68 : Cond.methodLink RX10 68 (zmy m_X10_readTurned) ∈ zWT := z_i3 36 (by decide +kernel) rfl
theorem ml_X10_46 : Cond.methodLink RX10 46 (zmy m_X6_add) ∈ zWT := z_i3 40 (by decide +kernel) rfl
theorem ml_X10_71 : Cond.methodLink RX10 71 (zmy m_X10_isDigit) ∈ zWT := z_i3 44 (by decide +kernel) rfl
theorem ml_X10_74 : Cond.methodLink RX10 74 (zmy m_X10_readNumber) ∈ zWT := z_i3 47 (by decide +kernel) rfl
theorem ml_X10_77 : Cond.methodLink RX10 77 (zmy m_X10_nameOf) ∈ zWT := z_i3 51 (by decide +kernel) rfl
theorem ml_X10_57 : Cond.methodLink RX10 57 (zmy m_X10_tightnessOf) ∈ zWT := z_i3 54 (by decide +kernel) rfl
theorem ml_X10_50 : Cond.methodLink RX10 50 (zmy m_X6_leadHere) ∈ zWT := z_i3 57 (by decide +kernel) rfl
theorem ml_X11_149 : Cond.methodLink RX11 149 (zmy m_X10_clear) ∈ zWT := z_i3 61 (by decide +kernel) rfl
theorem ml_L_49 : Cond.methodLink RL 49 (zmy m_X11_odds) ∈ zWT := z_i3 65 (by decide +kernel) rfl
theorem ml_X11_152 : Cond.methodLink RX11 152 (zmy m_X9_isThrow) ∈ zWT := z_i3 69 (by decide +kernel) rfl
theorem ml_X11_156 : Cond.methodLink RX11 156 (zmy m_X11_oddsNow) ∈ zWT := z_i3 73 (by decide +kernel) rfl
theorem ml_X11_386 : Cond.methodLink RX11 386 (zmy m_X6_oddsOf) ∈ zWT := z_i3 77 (by decide +kernel) rfl
theorem ml_X6_28 : Cond.methodLink RX6 28 (zmy m_X9_get) ∈ zWT := z_i3 81 (by decide +kernel) rfl
theorem ml_X6_32 : Cond.methodLink RX6 32 (zmy m_X6_withoutText) ∈ zWT := z_i3 82 (by decide +kernel) rfl
theorem ml_X6_36 : Cond.methodLink RX6 36 (zmy m_X6_worth) ∈ zWT := z_i3 86 (by decide +kernel) rfl
theorem ml_X6_47 : Cond.methodLink RX6 47 (zmy m_X6_named) ∈ zWT := z_i3 90 (by decide +kernel) rfl
theorem ml_X6_44 : Cond.methodLink RX6 44 (zmy m_J9_max) ∈ zWT := z_i3 94 (by decide +kernel) rfl
theorem ml_X6_51 : Cond.methodLink RX6 51 (zmy m_X6_truth) ∈ zWT := z_i3 97 (by decide +kernel) rfl
theorem ml_X6_55 : Cond.methodLink RX6 55 (zmy m_X6_joined) ∈ zWT := z_i3 100 (by decide +kernel) rfl
theorem ml_X6_39 : Cond.methodLink RX6 39 (zmy m_J9_min) ∈ zWT := z_i3 103 (by decide +kernel) rfl
theorem ml_L_53 : Cond.methodLink RL 53 (zmy m_X11_flung) ∈ zWT := z_i3 106 (by decide +kernel) rfl
theorem ml_X11_159 : Cond.methodLink RX11 159 (zmy m_X8_refusal) ∈ zWT := z_i3 110 (by decide +kernel) rfl
theorem ml_X8_19 : Cond.methodLink RX8 19 (zmy m_X8_isEmpty) ∈ zWT := z_i3 114 (by decide +kernel) rfl
theorem ml_X11_163 : Cond.methodLink RX11 163 (zmy m_X7_read) ∈ zWT := z_i3 115 (by decide +kernel) rfl
theorem ml_X7_24 : Cond.methodLink RX7 24 (zmy m_X9_bits) ∈ zWT := z_i3 119 (by decide +kernel) rfl
theorem ml_X9_57 : Cond.methodLink RX9 57 (zmy m_X9_get) ∈ zWT := z_i3 123 (by decide +kernel) rfl
theorem ml_X7_32 : Cond.methodLink RX7 32 (zmy m_X9_get) ∈ zWT := z_i3 124 (by decide +kernel) rfl
theorem ml_X7_39 : Cond.methodLink RX7 39 (zmy m_X8_told) ∈ zWT := z_i3 125 (by decide +kernel) rfl
theorem ml_X7_44 : Cond.methodLink RX7 44 (zmy m_X9_has) ∈ zWT := z_i3 126 (by decide +kernel) rfl
theorem ml_X7_48 : Cond.methodLink RX7 48 (zmy m_J9_min) ∈ zWT := z_i3 127 (by decide +kernel) rfl
theorem ml_X7_53 : Cond.methodLink RX7 53 (zmy m_X6_oddsOf) ∈ zWT := z_i3 128 (by decide +kernel) rfl
theorem ml_X7_59 : Cond.methodLink RX7 59 (zmy m_J9_max) ∈ zWT := z_i3 129 (by decide +kernel) rfl
theorem ml_L_57 : Cond.methodLink RL 57 (zmy m_X11_likely) ∈ zWT := z_i3 130 (by decide +kernel) rfl
theorem ml_X11_185 : Cond.methodLink RX11 185 (zmy m_X11_partOf) ∈ zWT := z_i3 136 (by decide +kernel) rfl
theorem ml_X11_390 : Cond.methodLink RX11 390 (zmy m_X11_commonDivisor) ∈ zWT := z_i3 139 (by decide +kernel) rfl
theorem ml_L_62 : Cond.methodLink RL 62 (zmy m_X11_mean) ∈ zWT := z_i3 142 (by decide +kernel) rfl
theorem ml_L_66 : Cond.methodLink RL 66 (zmy m_X11_dealt) ∈ zWT := z_i3 146 (by decide +kernel) rfl
theorem ml_X11_192 : Cond.methodLink RX11 192 (zmy m_X9_waiting) ∈ zWT := z_i3 150 (by decide +kernel) rfl
theorem ml_X9_64 : Cond.methodLink RX9 64 (zmy m_X9_atHand) ∈ zWT := z_i3 154 (by decide +kernel) rfl
theorem ml_X9_61 : Cond.methodLink RX9 61 (zmy m_X9_bits) ∈ zWT := z_i3 158 (by decide +kernel) rfl
theorem ml_X11_195 : Cond.methodLink RX11 195 (zmy m_J6_bitCount) ∈ zWT := z_i3 159 (by decide +kernel) rfl
theorem ml_X11_200 : Cond.methodLink RX11 200 (zmy m_X11_minutesToDeal) ∈ zWT := z_i3 165 (by decide +kernel) rfl
theorem ml_X11_394 : Cond.methodLink RX11 394 (zmy m_X11_throwsWithin) ∈ zWT := z_i3 169 (by decide +kernel) rfl
theorem ml_X11_203 : Cond.methodLink RX11 203 (zmy m_X11_throwerOfDealt) ∈ zWT := z_i3 173 (by decide +kernel) rfl
theorem ml_L_70 : Cond.methodLink RL 70 (zmy m_X11_drops) ∈ zWT := z_i3 177 (by decide +kernel) rfl
theorem ml_X11_206 : Cond.methodLink RX11 206 (zmy m_X9_dropMinute) ∈ zWT := z_i3 181 (by decide +kernel) rfl
theorem ml_X9_68 : Cond.methodLink RX9 68 (zmy m_J9_max) ∈ zWT := z_i3 185 (by decide +kernel) rfl
theorem ml_L_74 : Cond.methodLink RL 74 (zmy m_X11_upBy) ∈ zWT := z_i3 186 (by decide +kernel) rfl
theorem ml_X11_209 : Cond.methodLink RX11 209 (zmy m_X9_firstToDrop) ∈ zWT := z_i3 190 (by decide +kernel) rfl
theorem ml_X9_73 : Cond.methodLink RX9 73 (zmy m_X9_dropMinute) ∈ zWT := z_i3 194 (by decide +kernel) rfl
theorem ml_X11_212 : Cond.methodLink RX11 212 (zmy m_X9_upAfter) ∈ zWT := z_i3 195 (by decide +kernel) rfl
theorem ml_L_78 : Cond.methodLink RL 78 (zmy m_X11_lies) ∈ zWT := z_i3 199 (by decide +kernel) rfl
theorem ml_X11_215 : Cond.methodLink RX11 215 (zmy m_X9_placeOnSand) ∈ zWT := z_i3 203 (by decide +kernel) rfl
theorem ml_L_82 : Cond.methodLink RL 82 (zmy m_X11_walk) ∈ zWT := z_i3 207 (by decide +kernel) rfl
theorem ml_X11_218 : Cond.methodLink RX11 218 (zmy m_X3_look) ∈ zWT := z_i3 211 (by decide +kernel) rfl
theorem ml_X3_19 : Cond.methodLink RX3 19 (zmy m_X3_spread) ∈ zWT := z_i3 215 (by decide +kernel) rfl
theorem ml_X3_46 : Cond.methodLink RX3 46 (zmy m_X9_placeOnSand) ∈ zWT := z_i3 219 (by decide +kernel) rfl
theorem ml_X3_50 : Cond.methodLink RX3 50 (zmy m_X9_get) ∈ zWT := z_i3 220 (by decide +kernel) rfl
theorem ml_X3_29 : Cond.methodLink RX3 29 (zmy m_X3_furthestRight) ∈ zWT := z_i3 221 (by decide +kernel) rfl
theorem ml_X3_36 : Cond.methodLink RX3 36 (zmy m_J9_max) ∈ zWT := z_i3 224 (by decide +kernel) rfl
theorem ml_X3_33 : Cond.methodLink RX3 33 (zmy m_X3_sumOf) ∈ zWT := z_i3 225 (by decide +kernel) rfl
theorem ml_L_86 : Cond.methodLink RL 86 (zmy m_X11_steer) ∈ zWT := z_i3 229 (by decide +kernel) rfl
theorem ml_X11_228 : Cond.methodLink RX11 228 (zmy m_X9_bits) ∈ zWT := z_i3 233 (by decide +kernel) rfl
theorem ml_X11_231 : Cond.methodLink RX11 231 (zmy m_X4_steering) ∈ zWT := z_i3 234 (by decide +kernel) rfl
theorem ml_L_90 : Cond.methodLink RL 90 (zmy m_X11_fewest) ∈ zWT := z_i3 238 (by decide +kernel) rfl
theorem ml_X11_234 : Cond.methodLink RX11 234 (zmy m_X4_fewestFor) ∈ zWT := z_i4 2 (by decide +kernel) rfl
theorem ml_X4_29 : Cond.methodLink RX4 29 (zmy m_X9_atHand) ∈ zWT := z_i4 6 (by decide +kernel) rfl
theorem ml_X4_33 : Cond.methodLink RX4 33 (zmy m_J6_bitCount) ∈ zWT := z_i4 7 (by decide +kernel) rfl
theorem ml_X4_39 : Cond.methodLink RX4 39 (zmy m_X4_serves) ∈ zWT := z_i4 8 (by decide +kernel) rfl
theorem ml_L_94 : Cond.methodLink RL 94 (zmy m_X11_home) ∈ zWT := z_i4 12 (by decide +kernel) rfl
theorem ml_X11_237 : Cond.methodLink RX11 237 (zmy m_X4_readHomes) ∈ zWT := z_i4 16 (by decide +kernel) rfl
theorem ml_X4_46 : Cond.methodLink RX4 46 (zmy m_X8_told) ∈ zWT := z_i4 20 (by decide +kernel) rfl
theorem ml_X4_51 : Cond.methodLink RX4 51 (zmy m_X9_has) ∈ zWT := z_i4 21 (by decide +kernel) rfl
theorem ml_X11_241 : Cond.methodLink RX11 241 (zmy m_X4_findWrong) ∈ zWT := z_i4 22 (by decide +kernel) rfl
theorem ml_X4_54 : Cond.methodLink RX4 54 (zmy m_X9_bits) ∈ zWT := z_i4 26 (by decide +kernel) rfl
theorem ml_X4_63 : Cond.methodLink RX4 63 (zmy m_X4_allIsSo) ∈ zWT := z_i4 27 (by decide +kernel) rfl
theorem ml_X4_67 : Cond.methodLink RX4 67 (zmy m_X4_steering) ∈ zWT := z_i4 31 (by decide +kernel) rfl
theorem ml_L_98 : Cond.methodLink RL 98 (zmy m_X11_pattern) ∈ zWT := z_i4 32 (by decide +kernel) rfl
theorem ml_X11_250 : Cond.methodLink RX11 250 (zmy m_X2_read) ∈ zWT := z_i4 36 (by decide +kernel) rfl
theorem ml_X2_26 : Cond.methodLink RX2 26 (zmy m_X8_told) ∈ zWT := z_i4 40 (by decide +kernel) rfl
theorem ml_X2_34 : Cond.methodLink RX2 34 (zmy m_X9_mayBe) ∈ zWT := z_i4 41 (by decide +kernel) rfl
theorem ml_X11_253 : Cond.methodLink RX11 253 (zmy m_X2_findMoves) ∈ zWT := z_i4 42 (by decide +kernel) rfl
theorem ml_X2_44 : Cond.methodLink RX2 44 (zmy m_X2_fits) ∈ zWT := z_i4 46 (by decide +kernel) rfl
theorem ml_X2_47 : Cond.methodLink RX2 47 (zmy m_X9_starIn) ∈ zWT := z_i4 50 (by decide +kernel) rfl
theorem ml_L_102 : Cond.methodLink RL 102 (zmy m_X11_byTurns) ∈ zWT := z_i4 51 (by decide +kernel) rfl
theorem ml_X11_262 : Cond.methodLink RX11 262 (zmy m_X4_playTurns) ∈ zWT := z_i4 55 (by decide +kernel) rfl
theorem ml_X4_70 : Cond.methodLink RX4 70 (zmy m_X9_waiting) ∈ zWT := z_i4 59 (by decide +kernel) rfl
theorem ml_X4_78 : Cond.methodLink RX4 78 (zmy m_X4_fewestBehind) ∈ zWT := z_i4 60 (by decide +kernel) rfl
theorem ml_X4_94 : Cond.methodLink RX4 94 (zmy m_X4_mostBehind) ∈ zWT := z_i4 64 (by decide +kernel) rfl
theorem ml_X4_88 : Cond.methodLink RX4 88 (zmy m_J9_max) ∈ zWT := z_i4 68 (by decide +kernel) rfl
theorem ml_X4_97 : Cond.methodLink RX4 97 (zmy m_J9_min) ∈ zWT := z_i4 69 (by decide +kernel) rfl
theorem ml_L_106 : Cond.methodLink RL 106 (zmy m_X11_drawn) ∈ zWT := z_i4 70 (by decide +kernel) rfl
theorem ml_X11_275 : Cond.methodLink RX11 275 (zmy m_X7_nightFrom) ∈ zWT := z_i4 74 (by decide +kernel) rfl
theorem ml_X7_65 : Cond.methodLink RX7 65 (zmy m_X7_next) ∈ zWT := z_i4 78 (by decide +kernel) rfl
theorem ml_X7_68 : Cond.methodLink RX7 68 (zmy m_X7_sticks) ∈ zWT := z_i4 82 (by decide +kernel) rfl
theorem ml_L_111 : Cond.methodLink RL 111 (zmy m_X11_fling) ∈ zWT := z_i4 85 (by decide +kernel) rfl
theorem ml_X11_278 : Cond.methodLink RX11 278 (zmy m_X7_next) ∈ zWT := z_i4 89 (by decide +kernel) rfl
theorem ml_X11_281 : Cond.methodLink RX11 281 (zmy m_X7_sticks) ∈ zWT := z_i4 90 (by decide +kernel) rfl
theorem ml_X11_287 : Cond.methodLink RX11 287 (zmy m_X9_goOn) ∈ zWT := z_i4 91 (by decide +kernel) rfl
theorem ml_X9_76 : Cond.methodLink RX9 76 (zmy m_J9_min) ∈ zWT := z_i4 95 (by decide +kernel) rfl
theorem ml_L_115 : Cond.methodLink RL 115 (zmy m_X11_pass) ∈ zWT := z_i4 96 (by decide +kernel) rfl
theorem ml_X11_290 : Cond.methodLink RX11 290 (zmy m_X9_dropDue) ∈ zWT := z_i4 100 (by decide +kernel) rfl
theorem ml_X9_79 : Cond.methodLink RX9 79 (zmy m_X9_upAfter) ∈ zWT := z_i4 104 (by decide +kernel) rfl
theorem ml_X9_82 : Cond.methodLink RX9 82 (zmy m_J6_bitCount) ∈ zWT := z_i4 105 (by decide +kernel) rfl
theorem ml_L_119 : Cond.methodLink RL 119 (zmy m_X11_pocket) ∈ zWT := z_i4 106 (by decide +kernel) rfl
theorem ml_L_123 : Cond.methodLink RL 123 (zmy m_X11_led) ∈ zWT := z_i4 110 (by decide +kernel) rfl
theorem ml_L_127 : Cond.methodLink RL 127 (zmy m_X11_image) ∈ zWT := z_i4 114 (by decide +kernel) rfl
theorem ml_X11_293 : Cond.methodLink RX11 293 (zmy m_X5_takeOf) ∈ zWT := z_i4 118 (by decide +kernel) rfl
theorem ml_X5_15 : Cond.methodLink RX5 15 (zmy m_X9_bits) ∈ zWT := z_i4 122 (by decide +kernel) rfl
theorem ml_X5_30 : Cond.methodLink RX5 30 (zmy m_X9_get) ∈ zWT := z_i4 123 (by decide +kernel) rfl
theorem ml_X5_41 : Cond.methodLink RX5 41 arraycopyName ∈ zWT := z_i4 124 (by decide +kernel) rfl
theorem ml_L_131 : Cond.methodLink RL 131 (zmy m_X11_back) ∈ zWT := z_i4 125 (by decide +kernel) rfl
theorem ml_X11_300 : Cond.methodLink RX11 300 (zmy m_X5_layOn) ∈ zWT := z_i4 129 (by decide +kernel) rfl
theorem ml_X5_51 : Cond.methodLink RX5 51 (zmy m_X9_set) ∈ zWT := z_i4 133 (by decide +kernel) rfl
theorem ml_L_135 : Cond.methodLink RL 135 (zmy m_X11_undo) ∈ zWT := z_i4 134 (by decide +kernel) rfl
theorem ml_X11_303 : Cond.methodLink RX11 303 (zmy m_X1_takeBack) ∈ zWT := z_i4 138 (by decide +kernel) rfl
theorem ml_X1_40 : Cond.methodLink RX1 40 (zmy m_X1_lay) ∈ zWT := z_i4 142 (by decide +kernel) rfl
theorem ml_X1_44 : Cond.methodLink RX1 44 (zmy m_X9_isTakenByOther) ∈ zWT := z_i4 146 (by decide +kernel) rfl
theorem ml_X1_50 : Cond.methodLink RX1 50 (zmy m_X9_set) ∈ zWT := z_i4 147 (by decide +kernel) rfl
theorem ml_L_139 : Cond.methodLink RL 139 (zmy m_X11_redo) ∈ zWT := z_i4 148 (by decide +kernel) rfl
theorem ml_X11_307 : Cond.methodLink RX11 307 (zmy m_X1_doAgain) ∈ zWT := z_i4 152 (by decide +kernel) rfl
theorem ml_L_143 : Cond.methodLink RL 143 (zmy m_X11_body) ∈ zWT := z_i4 156 (by decide +kernel) rfl
theorem ml_X11_310 : Cond.methodLink RX11 310 (zmy m_X0_add) ∈ zWT := z_i4 160 (by decide +kernel) rfl
theorem ml_L_147 : Cond.methodLink RL 147 (zmy m_X11_act) ∈ zWT := z_i4 164 (by decide +kernel) rfl
theorem ml_X11_311 : Cond.methodLink RX11 311 (zmy m_X0_actOf) ∈ zWT := z_i4 168 (by decide +kernel) rfl
theorem ml_X0_38 : Cond.methodLink RX0 38 (zmy m_X0_kindOf) ∈ zWT := z_i4 172 (by decide +kernel) rfl
theorem ml_X0_41 : Cond.methodLink RX0 41 (zmy m_X0_done) ∈ zWT := z_i4 176 (by decide +kernel) rfl
theorem ml_X0_45 : Cond.methodLink RX0 45 (zmy m_X0_doneAs) ∈ zWT := z_i4 180 (by decide +kernel) rfl
theorem ml_X0_49 : Cond.methodLink RX0 49 (zmy m_X0_ownOf) ∈ zWT := z_i4 184 (by decide +kernel) rfl
theorem ml_X0_22 : Cond.methodLink RX0 22 (zmy m_X0_above) ∈ zWT := z_i4 189 (by decide +kernel) rfl
theorem ml_X0_52 : Cond.methodLink RX0 52 (zmy m_X0_begin) ∈ zWT := z_i4 194 (by decide +kernel) rfl
theorem ml_X0_56 : Cond.methodLink RX0 56 (zmy m_X0_doneAbove) ∈ zWT := z_i4 198 (by decide +kernel) rfl
theorem ml_L_151 : Cond.methodLink RL 151 (zmy m_X11_trace) ∈ zWT := z_i4 202 (by decide +kernel) rfl
theorem ml_X11_314 : Cond.methodLink RX11 314 (zmy m_X0_traced) ∈ zWT := z_i4 206 (by decide +kernel) rfl
theorem ml_X0_32 : Cond.methodLink RX0 32 (zmy m_J9_min) ∈ zWT := z_i4 210 (by decide +kernel) rfl
theorem ml_L_155 : Cond.methodLink RL 155 (zmy m_X11_keep) ∈ zWT := z_i4 211 (by decide +kernel) rfl
theorem ml_X11_323 : Cond.methodLink RX11 323 (zmy m_X8_holdNothing) ∈ zWT := z_i4 215 (by decide +kernel) rfl
theorem ml_X11_326 : Cond.methodLink RX11 326 (zmy m_X8_holdBody) ∈ zWT := z_i4 219 (by decide +kernel) rfl
theorem ml_L_159 : Cond.methodLink RL 159 (zmy m_X11_row) ∈ zWT := z_i4 223 (by decide +kernel) rfl
theorem ml_X11_329 : Cond.methodLink RX11 329 (zmy m_X8_holdRow) ∈ zWT := z_i4 227 (by decide +kernel) rfl
theorem ml_X8_26 : Cond.methodLink RX8 26 (zmy m_J9_min) ∈ zWT := z_i4 231 (by decide +kernel) rfl
theorem ml_X8_32 : Cond.methodLink RX8 32 (zmy m_J9_max) ∈ zWT := z_i4 232 (by decide +kernel) rfl
theorem ml_L_165 : Cond.methodLink RL 165 (zmy m_X11_put) ∈ zWT := z_i4 233 (by decide +kernel) rfl
theorem ml_X11_332 : Cond.methodLink RX11 332 (zmy m_X8_isRow) ∈ zWT := z_i4 237 (by decide +kernel) rfl
theorem ml_X11_338 : Cond.methodLink RX11 338 (zmy m_X8_write) ∈ zWT := z_i5 1 (by decide +kernel) rfl
theorem ml_X8_42 : Cond.methodLink RX8 42 (zmy m_X8_lowest) ∈ zWT := z_i5 5 (by decide +kernel) rfl
theorem ml_L_170 : Cond.methodLink RL 170 (zmy m_X11_element) ∈ zWT := z_i5 9 (by decide +kernel) rfl
theorem ml_L_174 : Cond.methodLink RL 174 (zmy m_X11_shift) ∈ zWT := z_i5 13 (by decide +kernel) rfl
theorem ml_X11_349 : Cond.methodLink RX11 349 (zmy m_X8_hasRun) ∈ zWT := z_i5 17 (by decide +kernel) rfl
theorem ml_X11_352 : Cond.methodLink RX11 352 arraycopyName ∈ zWT := z_i5 21 (by decide +kernel) rfl
theorem ml_L_179 : Cond.methodLink RL 179 (zmy m_X11_taken) ∈ zWT := z_i5 22 (by decide +kernel) rfl
theorem ml_X11_358 : Cond.methodLink RX11 358 (zmy m_X8_isBody) ∈ zWT := z_i5 26 (by decide +kernel) rfl
theorem ml_X11_364 : Cond.methodLink RX11 364 (zmy m_X0_kindOf) ∈ zWT := z_i5 30 (by decide +kernel) rfl
theorem ml_X11_367 : Cond.methodLink RX11 367 (zmy m_X0_isUnder) ∈ zWT := z_i5 31 (by decide +kernel) rfl
theorem ml_L_183 : Cond.methodLink RL 183 (zmy m_X11_count) ∈ zWT := z_i5 34 (by decide +kernel) rfl
theorem ml_L_12 : Cond.methodLink RL 12 (zmy m_X12_init) ∈ zWT := z_i5 40 (by decide +kernel) rfl
theorem ml_X12_3 : Cond.methodLink RX12 3 objectInit ∈ zWT := z_i5 43 (by decide +kernel) rfl
theorem ml_L_17 : Cond.methodLink RL 17 (zmy m_X12_star) ∈ zWT := z_i5 217 (by decide +kernel) rfl
theorem ml_X12_145 : Cond.methodLink RX12 145 (zmy m_X12_isCell) ∈ zWT := z_i5 221 (by decide +kernel) rfl
theorem ml_X12_127 : Cond.methodLink RX12 127 (zmy m_X12_in) ∈ zWT := z_i5 224 (by decide +kernel) rfl
theorem ml_X12_141 : Cond.methodLink RX12 141 (zmy m_X12_starIn) ∈ zWT := z_i5 227 (by decide +kernel) rfl
theorem ml_X12_148 : Cond.methodLink RX12 148 (zmy m_X12_addStar) ∈ zWT := z_i5 231 (by decide +kernel) rfl
theorem ml_L_22 : Cond.methodLink RL 22 (zmy m_X12_stars) ∈ zWT := z_i5 235 (by decide +kernel) rfl
theorem ml_X12_152 : Cond.methodLink RX12 152 (zmy m_X12_isShelf) ∈ zWT := z_i5 239 (by decide +kernel) rfl
theorem ml_L_26 : Cond.methodLink RL 26 (zmy m_X12_thrower) ∈ zWT := z_i6 3 (by decide +kernel) rfl
theorem ml_L_30 : Cond.methodLink RL 30 (zmy m_X12_ship) ∈ zWT := z_i6 7 (by decide +kernel) rfl
theorem ml_L_138 : Cond.methodLink RL 138 (zmy m_X12_undo) ∈ zWT := z_i6 11 (by decide +kernel) rfl
theorem ml_X12_174 : Cond.methodLink RX12 174 (zmy m_X12_lays) ∈ zWT := z_i6 15 (by decide +kernel) rfl
theorem ml_X12_160 : Cond.methodLink RX12 160 (zmy m_X12_isFree) ∈ zWT := z_i6 19 (by decide +kernel) rfl
theorem ml_L_142 : Cond.methodLink RL 142 (zmy m_X12_redo) ∈ zWT := z_i6 23 (by decide +kernel) rfl
theorem ml_L_34 : Cond.methodLink RL 34 (zmy m_X12_mend) ∈ zWT := z_i6 27 (by decide +kernel) rfl
theorem ml_X12_178 : Cond.methodLink RX12 178 (zmy m_X12_isPlace) ∈ zWT := z_i6 31 (by decide +kernel) rfl
theorem ml_X12_134 : Cond.methodLink RX12 134 (zmy m_X12_isStar) ∈ zWT := z_i6 35 (by decide +kernel) rfl
theorem ml_X12_138 : Cond.methodLink RX12 138 (zmy m_X12_isThrower) ∈ zWT := z_i6 39 (by decide +kernel) rfl
theorem ml_X12_181 : Cond.methodLink RX12 181 (zmy m_X12_mayHave) ∈ zWT := z_i6 43 (by decide +kernel) rfl
theorem ml_X12_184 : Cond.methodLink RX12 184 (zmy m_X12_changes) ∈ zWT := z_i6 47 (by decide +kernel) rfl
theorem ml_X12_164 : Cond.methodLink RX12 164 (zmy m_X12_valueAt) ∈ zWT := z_i6 51 (by decide +kernel) rfl
theorem ml_L_39 : Cond.methodLink RL 39 (zmy m_X12_of) ∈ zWT := z_i6 56 (by decide +kernel) rfl
theorem ml_L_43 : Cond.methodLink RL 43 (zmy m_X12_feed) ∈ zWT := z_i6 60 (by decide +kernel) rfl
theorem ml_L_48 : Cond.methodLink RL 48 (zmy m_X12_law) ∈ zWT := z_i6 64 (by decide +kernel) rfl
theorem ml_X12_251 : Cond.methodLink RX12 251 (zmy m_X12_readText) ∈ zWT := z_i6 68 (by decide +kernel) rfl
theorem ml_X12_242 : Cond.methodLink RX12 242 (zmy m_X12_line) ∈ zWT := z_i6 72 (by decide +kernel) rfl
theorem ml_X12_224 : Cond.methodLink RX12 224 (zmy m_X12_either) ∈ zWT := z_i6 76 (by decide +kernel) rfl
theorem ml_X12_239 : Cond.methodLink RX12 239 (zmy m_X12_both) ∈ zWT := z_i6 80 (by decide +kernel) rfl
theorem ml_X12_236 : Cond.methodLink RX12 236 (zmy m_X12_compared) ∈ zWT := z_i6 84 (by decide +kernel) rfl
theorem ml_X12_233 : Cond.methodLink RX12 233 (zmy m_X12_sum) ∈ zWT := z_i6 88 (by decide +kernel) rfl
theorem ml_X12_230 : Cond.methodLink RX12 230 (zmy m_X12_product) ∈ zWT := z_i6 92 (by decide +kernel) rfl
theorem ml_X12_221 : Cond.methodLink RX12 221 (zmy m_X12_operand) ∈ zWT := z_i6 96 (by decide +kernel) rfl
theorem ml_X12_206 : Cond.methodLink RX12 206 (zmy m_X12_look) ∈ zWT := z_i6 100 (by decide +kernel) rfl
theorem ml_X12_214 : Cond.methodLink RX12 214 (zmy m_X12_nameOf) ∈ zWT := z_i6 104 (by decide +kernel) rfl
theorem ml_X12_210 : Cond.methodLink RX12 210 (zmy m_X12_addStep) ∈ zWT := z_i6 107 (by decide +kernel) rfl
theorem ml_X12_217 : Cond.methodLink RX12 217 (zmy m_X12_opens) ∈ zWT := z_i6 111 (by decide +kernel) rfl
theorem ml_X12_203 : Cond.methodLink RX12 203 (zmy m_X12_wrong) ∈ zWT := z_i6 115 (by decide +kernel) rfl
theorem ml_X12_227 : Cond.methodLink RX12 227 (zmy m_X12_figure) ∈ zWT := z_i6 119 (by decide +kernel) rfl
theorem ml_L_52 : Cond.methodLink RL 52 (zmy m_X12_odds) ∈ zWT := z_i6 123 (by decide +kernel) rfl
theorem ml_X12_261 : Cond.methodLink RX12 261 (zmy m_X12_areStarThrower) ∈ zWT := z_i6 127 (by decide +kernel) rfl
theorem ml_X12_264 : Cond.methodLink RX12 264 (zmy m_X12_oddsBy) ∈ zWT := z_i6 131 (by decide +kernel) rfl
theorem ml_X12_258 : Cond.methodLink RX12 258 (zmy m_X12_gives) ∈ zWT := z_i6 135 (by decide +kernel) rfl
theorem ml_X12_248 : Cond.methodLink RX12 248 (zmy m_X12_worked) ∈ zWT := z_i6 139 (by decide +kernel) rfl
theorem ml_X12_245 : Cond.methodLink RX12 245 (zmy m_X12_twoOf) ∈ zWT := z_i6 143 (by decide +kernel) rfl
theorem ml_L_56 : Cond.methodLink RL 56 (zmy m_X12_flung) ∈ zWT := z_i6 146 (by decide +kernel) rfl
theorem ml_X12_279 : Cond.methodLink RX12 279 (zmy m_X12_rowFault) ∈ zWT := z_i6 150 (by decide +kernel) rfl
theorem ml_X12_282 : Cond.methodLink RX12 282 (zmy m_X12_layPlan) ∈ zWT := z_i6 154 (by decide +kernel) rfl
theorem ml_X12_276 : Cond.methodLink RX12 276 (zmy m_X12_goesOn) ∈ zWT := z_i6 158 (by decide +kernel) rfl
theorem ml_X12_267 : Cond.methodLink RX12 267 (zmy m_X12_at) ∈ zWT := z_i6 162 (by decide +kernel) rfl
theorem ml_L_61 : Cond.methodLink RL 61 (zmy m_X12_likely) ∈ zWT := z_i6 166 (by decide +kernel) rfl
theorem ml_X12_288 : Cond.methodLink RX12 288 (zmy m_X12_planOdds) ∈ zWT := z_i6 171 (by decide +kernel) rfl
theorem ml_X12_293 : Cond.methodLink RX12 293 (zmy m_X12_asPart) ∈ zWT := z_i6 176 (by decide +kernel) rfl
theorem ml_L_65 : Cond.methodLink RL 65 (zmy m_X12_mean) ∈ zWT := z_i6 179 (by decide +kernel) rfl
theorem ml_L_69 : Cond.methodLink RL 69 (zmy m_X12_dealt) ∈ zWT := z_i6 183 (by decide +kernel) rfl
theorem ml_X12_297 : Cond.methodLink RX12 297 (zmy m_X12_downMany) ∈ zWT := z_i6 187 (by decide +kernel) rfl
theorem ml_X12_300 : Cond.methodLink RX12 300 (zmy m_X12_minutesBy) ∈ zWT := z_i6 191 (by decide +kernel) rfl
theorem ml_L_73 : Cond.methodLink RL 73 (zmy m_X12_drops) ∈ zWT := z_i6 195 (by decide +kernel) rfl
theorem ml_X12_303 : Cond.methodLink RX12 303 (zmy m_X12_dropsAt) ∈ zWT := z_i6 199 (by decide +kernel) rfl
theorem ml_L_77 : Cond.methodLink RL 77 (zmy m_X12_upBy) ∈ zWT := z_i6 203 (by decide +kernel) rfl
theorem ml_X12_306 : Cond.methodLink RX12 306 (zmy m_X12_firstDrop) ∈ zWT := z_i6 207 (by decide +kernel) rfl
theorem ml_X12_309 : Cond.methodLink RX12 309 (zmy m_X12_stillUp) ∈ zWT := z_i6 211 (by decide +kernel) rfl
theorem ml_X12_312 : Cond.methodLink RX12 312 (zmy m_X12_bitsOf) ∈ zWT := z_i6 215 (by decide +kernel) rfl
theorem ml_L_81 : Cond.methodLink RL 81 (zmy m_X12_lies) ∈ zWT := z_i6 218 (by decide +kernel) rfl
theorem ml_X12_315 : Cond.methodLink RX12 315 (zmy m_X12_liesAt) ∈ zWT := z_i6 222 (by decide +kernel) rfl
theorem ml_L_85 : Cond.methodLink RL 85 (zmy m_X12_walk) ∈ zWT := z_i6 226 (by decide +kernel) rfl
theorem ml_X12_318 : Cond.methodLink RX12 318 (zmy m_X12_brightIn) ∈ zWT := z_i6 230 (by decide +kernel) rfl
theorem ml_L_89 : Cond.methodLink RL 89 (zmy m_X12_steer) ∈ zWT := z_i6 234 (by decide +kernel) rfl
theorem ml_X12_321 : Cond.methodLink RX12 321 (zmy m_X12_upNow) ∈ zWT := z_i6 238 (by decide +kernel) rfl
theorem ml_X12_324 : Cond.methodLink RX12 324 (zmy m_X12_steerBy) ∈ zWT := z_i7 2 (by decide +kernel) rfl
theorem ml_L_93 : Cond.methodLink RL 93 (zmy m_X12_fewest) ∈ zWT := z_i7 6 (by decide +kernel) rfl
theorem ml_X12_333 : Cond.methodLink RX12 333 (zmy m_X12_thereBits) ∈ zWT := z_i7 10 (by decide +kernel) rfl
theorem ml_X12_330 : Cond.methodLink RX12 330 (zmy m_X12_allSteer) ∈ zWT := z_i7 14 (by decide +kernel) rfl
theorem ml_X12_336 : Cond.methodLink RX12 336 (zmy m_X12_areSafe) ∈ zWT := z_i7 18 (by decide +kernel) rfl
theorem ml_X12_327 : Cond.methodLink RX12 327 (zmy m_X12_has) ∈ zWT := z_i7 22 (by decide +kernel) rfl
theorem ml_L_97 : Cond.methodLink RL 97 (zmy m_X12_home) ∈ zWT := z_i7 25 (by decide +kernel) rfl
theorem ml_X12_339 : Cond.methodLink RX12 339 (zmy m_X12_isHomeBy) ∈ zWT := z_i7 29 (by decide +kernel) rfl
theorem ml_L_101 : Cond.methodLink RL 101 (zmy m_X12_pattern) ∈ zWT := z_i7 33 (by decide +kernel) rfl
theorem ml_X12_342 : Cond.methodLink RX12 342 (zmy m_X12_comesOn) ∈ zWT := z_i7 37 (by decide +kernel) rfl
theorem ml_L_105 : Cond.methodLink RL 105 (zmy m_X12_byTurns) ∈ zWT := z_i7 41 (by decide +kernel) rfl
theorem ml_X12_346 : Cond.methodLink RX12 346 (zmy m_X12_bestOf) ∈ zWT := z_i7 45 (by decide +kernel) rfl
theorem ml_X12_350 : Cond.methodLink RX12 350 (zmy m_X12_mayTurn) ∈ zWT := z_i7 49 (by decide +kernel) rfl
theorem ml_L_110 : Cond.methodLink RL 110 (zmy m_X12_drawn) ∈ zWT := z_i7 53 (by decide +kernel) rfl
theorem ml_L_114 : Cond.methodLink RL 114 (zmy m_X12_fling) ∈ zWT := z_i7 58 (by decide +kernel) rfl
theorem ml_X12_355 : Cond.methodLink RX12 355 (zmy m_X12_passes) ∈ zWT := z_i7 62 (by decide +kernel) rfl
theorem ml_L_118 : Cond.methodLink RL 118 (zmy m_X12_pass) ∈ zWT := z_i7 66 (by decide +kernel) rfl
theorem ml_L_122 : Cond.methodLink RL 122 (zmy m_X12_pocket) ∈ zWT := z_i7 70 (by decide +kernel) rfl
theorem ml_L_126 : Cond.methodLink RL 126 (zmy m_X12_led) ∈ zWT := z_i7 74 (by decide +kernel) rfl
theorem ml_L_130 : Cond.methodLink RL 130 (zmy m_X12_image) ∈ zWT := z_i7 78 (by decide +kernel) rfl
theorem ml_L_134 : Cond.methodLink RL 134 (zmy m_X12_back) ∈ zWT := z_i7 82 (by decide +kernel) rfl
theorem ml_L_154 : Cond.methodLink RL 154 (zmy m_X12_trace) ∈ zWT := z_i7 86 (by decide +kernel) rfl
theorem ml_L_146 : Cond.methodLink RL 146 (zmy m_X12_body) ∈ zWT := z_i7 90 (by decide +kernel) rfl
theorem ml_L_150 : Cond.methodLink RL 150 (zmy m_X12_act) ∈ zWT := z_i7 94 (by decide +kernel) rfl
theorem ml_X12_418 : Cond.methodLink RX12 418 (zmy m_X12_isBody) ∈ zWT := z_i7 98 (by decide +kernel) rfl
theorem ml_X12_394 : Cond.methodLink RX12 394 (zmy m_X12_sticking) ∈ zWT := z_i7 102 (by decide +kernel) rfl
theorem ml_X12_388 : Cond.methodLink RX12 388 (zmy m_X12_isUnder) ∈ zWT := z_i7 106 (by decide +kernel) rfl
theorem ml_X12_382 : Cond.methodLink RX12 382 (zmy m_X12_ran) ∈ zWT := z_i7 109 (by decide +kernel) rfl
theorem ml_X12_385 : Cond.methodLink RX12 385 (zmy m_X12_plainSticks) ∈ zWT := z_i7 113 (by decide +kernel) rfl
theorem ml_X12_391 : Cond.methodLink RX12 391 (zmy m_X12_gooleSticks) ∈ zWT := z_i7 117 (by decide +kernel) rfl
theorem ml_X12_412 : Cond.methodLink RX12 412 (zmy m_X12_dropping) ∈ zWT := z_i7 121 (by decide +kernel) rfl
theorem ml_X12_400 : Cond.methodLink RX12 400 (zmy m_X12_heapDrops) ∈ zWT := z_i7 125 (by decide +kernel) rfl
theorem ml_X12_397 : Cond.methodLink RX12 397 (zmy m_X12_plainDrops) ∈ zWT := z_i7 129 (by decide +kernel) rfl
theorem ml_X12_403 : Cond.methodLink RX12 403 (zmy m_X12_lying) ∈ zWT := z_i7 133 (by decide +kernel) rfl
theorem ml_X12_409 : Cond.methodLink RX12 409 (zmy m_X12_flingLies) ∈ zWT := z_i7 137 (by decide +kernel) rfl
theorem ml_X12_406 : Cond.methodLink RX12 406 (zmy m_X12_plainLies) ∈ zWT := z_i7 141 (by decide +kernel) rfl
theorem ml_X12_421 : Cond.methodLink RX12 421 (zmy m_X12_telling) ∈ zWT := z_i7 145 (by decide +kernel) rfl
theorem ml_X12_415 : Cond.methodLink RX12 415 (zmy m_X12_plainTells) ∈ zWT := z_i7 149 (by decide +kernel) rfl
theorem ml_L_186 : Cond.methodLink RL 186 (zmy m_X12_count) ∈ zWT := z_i7 153 (by decide +kernel) rfl
theorem ml_L_158 : Cond.methodLink RL 158 (zmy m_X12_keep) ∈ zWT := z_i7 157 (by decide +kernel) rfl
theorem ml_L_162 : Cond.methodLink RL 162 (zmy m_X12_row) ∈ zWT := z_i7 161 (by decide +kernel) rfl
theorem ml_L_169 : Cond.methodLink RL 169 (zmy m_X12_put) ∈ zWT := z_i7 165 (by decide +kernel) rfl
theorem ml_X12_424 : Cond.methodLink RX12 424 (zmy m_X12_whyNoPlace) ∈ zWT := z_i7 169 (by decide +kernel) rfl
theorem ml_L_173 : Cond.methodLink RL 173 (zmy m_X12_element) ∈ zWT := z_i7 173 (by decide +kernel) rfl
theorem ml_L_178 : Cond.methodLink RL 178 (zmy m_X12_shift) ∈ zWT := z_i7 177 (by decide +kernel) rfl
theorem ml_L_182 : Cond.methodLink RL 182 (zmy m_X12_taken) ∈ zWT := z_i7 181 (by decide +kernel) rfl
theorem fl_X9_13 : Cond.fieldLink RX9 13 RX9 (TX9 0).2.1 (TX9 0).2.2.1 ∈ zWT := z_i1 33 (by decide +kernel) rfl
theorem fl_X9_16 : Cond.fieldLink RX9 16 RX9 (TX9 1).2.1 (TX9 1).2.2.1 ∈ zWT := z_i1 34 (by decide +kernel) rfl
theorem fl_X4_26 : Cond.fieldLink RX4 26 RX9 (TX9 1).2.1 (TX9 1).2.2.1 ∈ zWT := z_i1 35 (by decide +kernel) rfl
theorem fl_X9_20 : Cond.fieldLink RX9 20 RX9 (TX9 2).2.1 (TX9 2).2.2.1 ∈ zWT := z_i1 36 (by decide +kernel) rfl
theorem fl_X5_40 : Cond.fieldLink RX5 40 RX9 (TX9 2).2.1 (TX9 2).2.2.1 ∈ zWT := z_i1 37 (by decide +kernel) rfl
theorem fl_X11_284 : Cond.fieldLink RX11 284 RX9 (TX9 2).2.1 (TX9 2).2.2.1 ∈ zWT := z_i1 38 (by decide +kernel) rfl
theorem fl_X9_23 : Cond.fieldLink RX9 23 RX9 (TX9 3).2.1 (TX9 3).2.2.1 ∈ zWT := z_i1 39 (by decide +kernel) rfl
theorem fl_X5_26 : Cond.fieldLink RX5 26 RX9 (TX9 3).2.1 (TX9 3).2.2.1 ∈ zWT := z_i1 40 (by decide +kernel) rfl
theorem fl_X3_41 : Cond.fieldLink RX3 41 RX9 (TX9 3).2.1 (TX9 3).2.2.1 ∈ zWT := z_i1 41 (by decide +kernel) rfl
theorem fl_X4_85 : Cond.fieldLink RX4 85 RX9 (TX9 3).2.1 (TX9 3).2.2.1 ∈ zWT := z_i1 42 (by decide +kernel) rfl
theorem fl_X11_370 : Cond.fieldLink RX11 370 RX9 (TX9 3).2.1 (TX9 3).2.2.1 ∈ zWT := z_i1 43 (by decide +kernel) rfl
theorem fl_X9_27 : Cond.fieldLink RX9 27 RX9 (TX9 4).2.1 (TX9 4).2.2.1 ∈ zWT := z_i1 44 (by decide +kernel) rfl
theorem fl_X11_189 : Cond.fieldLink RX11 189 RX9 (TX9 4).2.1 (TX9 4).2.2.1 ∈ zWT := z_i1 45 (by decide +kernel) rfl
theorem fl_X4_20 : Cond.fieldLink RX4 20 RX9 (TX9 5).2.1 (TX9 5).2.2.1 ∈ zWT := z_i1 46 (by decide +kernel) rfl
theorem fl_X9_30 : Cond.fieldLink RX9 30 RX9 (TX9 5).2.1 (TX9 5).2.2.1 ∈ zWT := z_i1 47 (by decide +kernel) rfl
theorem fl_X11_380 : Cond.fieldLink RX11 380 RX9 (TX9 5).2.1 (TX9 5).2.2.1 ∈ zWT := z_i1 48 (by decide +kernel) rfl
theorem fl_X4_16 : Cond.fieldLink RX4 16 RX4 (TX4 0).2.1 (TX4 0).2.2.1 ∈ zWT := z_i1 69 (by decide +kernel) rfl
theorem fl_X4_9 : Cond.fieldLink RX4 9 RX4 (TX4 1).2.1 (TX4 1).2.2.1 ∈ zWT := z_i1 70 (by decide +kernel) rfl
theorem fl_X4_13 : Cond.fieldLink RX4 13 RX4 (TX4 2).2.1 (TX4 2).2.2.1 ∈ zWT := z_i1 71 (by decide +kernel) rfl
theorem fl_X4_43 : Cond.fieldLink RX4 43 RX4 (TX4 3).2.1 (TX4 3).2.2.1 ∈ zWT := z_i1 72 (by decide +kernel) rfl
theorem fl_X4_57 : Cond.fieldLink RX4 57 RX4 (TX4 4).2.1 (TX4 4).2.2.1 ∈ zWT := z_i1 73 (by decide +kernel) rfl
theorem fl_X11_244 : Cond.fieldLink RX11 244 RX4 (TX4 4).2.1 (TX4 4).2.2.1 ∈ zWT := z_i1 74 (by decide +kernel) rfl
theorem fl_X4_60 : Cond.fieldLink RX4 60 RX4 (TX4 5).2.1 (TX4 5).2.2.1 ∈ zWT := z_i1 75 (by decide +kernel) rfl
theorem fl_X11_247 : Cond.fieldLink RX11 247 RX4 (TX4 5).2.1 (TX4 5).2.2.1 ∈ zWT := z_i1 76 (by decide +kernel) rfl
theorem fl_X4_73 : Cond.fieldLink RX4 73 RX4 (TX4 6).2.1 (TX4 6).2.2.1 ∈ zWT := z_i1 77 (by decide +kernel) rfl
theorem fl_X4_82 : Cond.fieldLink RX4 82 RX4 (TX4 7).2.1 (TX4 7).2.2.1 ∈ zWT := z_i1 78 (by decide +kernel) rfl
theorem fl_X11_266 : Cond.fieldLink RX11 266 RX4 (TX4 7).2.1 (TX4 7).2.2.1 ∈ zWT := z_i1 79 (by decide +kernel) rfl
theorem fl_X4_75 : Cond.fieldLink RX4 75 RX4 (TX4 8).2.1 (TX4 8).2.2.1 ∈ zWT := z_i1 80 (by decide +kernel) rfl
theorem fl_X11_269 : Cond.fieldLink RX11 269 RX4 (TX4 8).2.1 (TX4 8).2.2.1 ∈ zWT := z_i1 81 (by decide +kernel) rfl
theorem fl_X2_18 : Cond.fieldLink RX2 18 RX2 (TX2 0).2.1 (TX2 0).2.2.1 ∈ zWT := z_i1 107 (by decide +kernel) rfl
theorem fl_X2_11 : Cond.fieldLink RX2 11 RX2 (TX2 1).2.1 (TX2 1).2.2.1 ∈ zWT := z_i1 108 (by decide +kernel) rfl
theorem fl_X2_15 : Cond.fieldLink RX2 15 RX2 (TX2 2).2.1 (TX2 2).2.2.1 ∈ zWT := z_i1 109 (by decide +kernel) rfl
theorem fl_X2_22 : Cond.fieldLink RX2 22 RX2 (TX2 3).2.1 (TX2 3).2.2.1 ∈ zWT := z_i1 110 (by decide +kernel) rfl
theorem fl_X2_38 : Cond.fieldLink RX2 38 RX2 (TX2 4).2.1 (TX2 4).2.2.1 ∈ zWT := z_i1 111 (by decide +kernel) rfl
theorem fl_X11_256 : Cond.fieldLink RX11 256 RX2 (TX2 4).2.1 (TX2 4).2.2.1 ∈ zWT := z_i1 112 (by decide +kernel) rfl
theorem fl_X2_41 : Cond.fieldLink RX2 41 RX2 (TX2 5).2.1 (TX2 5).2.2.1 ∈ zWT := z_i1 113 (by decide +kernel) rfl
theorem fl_X11_259 : Cond.fieldLink RX11 259 RX2 (TX2 5).2.1 (TX2 5).2.2.1 ∈ zWT := z_i1 114 (by decide +kernel) rfl
theorem fl_X3_15 : Cond.fieldLink RX3 15 RX3 (TX3 0).2.1 (TX3 0).2.2.1 ∈ zWT := z_i1 134 (by decide +kernel) rfl
theorem fl_X3_9 : Cond.fieldLink RX3 9 RX3 (TX3 1).2.1 (TX3 1).2.2.1 ∈ zWT := z_i1 135 (by decide +kernel) rfl
theorem fl_X3_22 : Cond.fieldLink RX3 22 RX3 (TX3 2).2.1 (TX3 2).2.2.1 ∈ zWT := z_i1 136 (by decide +kernel) rfl
theorem fl_X11_222 : Cond.fieldLink RX11 222 RX3 (TX3 2).2.1 (TX3 2).2.2.1 ∈ zWT := z_i1 137 (by decide +kernel) rfl
theorem fl_X3_26 : Cond.fieldLink RX3 26 RX3 (TX3 3).2.1 (TX3 3).2.2.1 ∈ zWT := z_i1 138 (by decide +kernel) rfl
theorem fl_X11_225 : Cond.fieldLink RX11 225 RX3 (TX3 3).2.1 (TX3 3).2.2.1 ∈ zWT := z_i1 139 (by decide +kernel) rfl
theorem fl_X7_9 : Cond.fieldLink RX7 9 RX7 (TX7 0).2.1 (TX7 0).2.2.1 ∈ zWT := z_i1 155 (by decide +kernel) rfl
theorem fl_X7_15 : Cond.fieldLink RX7 15 RX7 (TX7 1).2.1 (TX7 1).2.2.1 ∈ zWT := z_i1 156 (by decide +kernel) rfl
theorem fl_X11_174 : Cond.fieldLink RX11 174 RX7 (TX7 1).2.1 (TX7 1).2.2.1 ∈ zWT := z_i1 157 (by decide +kernel) rfl
theorem fl_X7_18 : Cond.fieldLink RX7 18 RX7 (TX7 2).2.1 (TX7 2).2.2.1 ∈ zWT := z_i1 158 (by decide +kernel) rfl
theorem fl_X11_180 : Cond.fieldLink RX11 180 RX7 (TX7 2).2.1 (TX7 2).2.2.1 ∈ zWT := z_i1 159 (by decide +kernel) rfl
theorem fl_X7_21 : Cond.fieldLink RX7 21 RX7 (TX7 3).2.1 (TX7 3).2.2.1 ∈ zWT := z_i1 160 (by decide +kernel) rfl
theorem fl_X7_28 : Cond.fieldLink RX7 28 RX7 (TX7 4).2.1 (TX7 4).2.2.1 ∈ zWT := z_i1 161 (by decide +kernel) rfl
theorem fl_X11_171 : Cond.fieldLink RX11 171 RX7 (TX7 4).2.1 (TX7 4).2.2.1 ∈ zWT := z_i1 162 (by decide +kernel) rfl
theorem fl_X7_36 : Cond.fieldLink RX7 36 RX7 (TX7 5).2.1 (TX7 5).2.2.1 ∈ zWT := z_i1 163 (by decide +kernel) rfl
theorem fl_X11_167 : Cond.fieldLink RX11 167 RX7 (TX7 5).2.1 (TX7 5).2.2.1 ∈ zWT := z_i1 164 (by decide +kernel) rfl
theorem fl_X7_62 : Cond.fieldLink RX7 62 RX7 (TX7 6).2.1 (TX7 6).2.2.1 ∈ zWT := z_i1 165 (by decide +kernel) rfl
theorem fl_X11_272 : Cond.fieldLink RX11 272 RX7 (TX7 6).2.1 (TX7 6).2.2.1 ∈ zWT := z_i1 166 (by decide +kernel) rfl
theorem fl_X10_11 : Cond.fieldLink RX10 11 RX10 (TX10 0).2.1 (TX10 0).2.2.1 ∈ zWT := z_i1 188 (by decide +kernel) rfl
theorem fl_X10_15 : Cond.fieldLink RX10 15 RX10 (TX10 1).2.1 (TX10 1).2.2.1 ∈ zWT := z_i1 189 (by decide +kernel) rfl
theorem fl_X11_373 : Cond.fieldLink RX11 373 RX10 (TX10 1).2.1 (TX10 1).2.2.1 ∈ zWT := z_i1 190 (by decide +kernel) rfl
theorem fl_X10_28 : Cond.fieldLink RX10 28 RX10 (TX10 2).2.1 (TX10 2).2.2.1 ∈ zWT := z_i1 191 (by decide +kernel) rfl
theorem fl_X10_24 : Cond.fieldLink RX10 24 RX10 (TX10 3).2.1 (TX10 3).2.2.1 ∈ zWT := z_i1 192 (by decide +kernel) rfl
theorem fl_X1_11 : Cond.fieldLink RX1 11 RX1 (TX1 0).2.1 (TX1 0).2.2.1 ∈ zWT := z_i1 208 (by decide +kernel) rfl
theorem fl_X1_15 : Cond.fieldLink RX1 15 RX1 (TX1 1).2.1 (TX1 1).2.2.1 ∈ zWT := z_i1 209 (by decide +kernel) rfl
theorem fl_X1_18 : Cond.fieldLink RX1 18 RX1 (TX1 2).2.1 (TX1 2).2.2.1 ∈ zWT := z_i1 210 (by decide +kernel) rfl
theorem fl_X1_21 : Cond.fieldLink RX1 21 RX1 (TX1 3).2.1 (TX1 3).2.2.1 ∈ zWT := z_i1 211 (by decide +kernel) rfl
theorem fl_X1_24 : Cond.fieldLink RX1 24 RX1 (TX1 4).2.1 (TX1 4).2.2.1 ∈ zWT := z_i1 212 (by decide +kernel) rfl
theorem fl_X11_376 : Cond.fieldLink RX11 376 RX1 (TX1 4).2.1 (TX1 4).2.2.1 ∈ zWT := z_i1 213 (by decide +kernel) rfl
theorem fl_X1_31 : Cond.fieldLink RX1 31 RX1 (TX1 5).2.1 (TX1 5).2.2.1 ∈ zWT := z_i1 214 (by decide +kernel) rfl
theorem fl_X5_9 : Cond.fieldLink RX5 9 RX5 (TX5 0).2.1 (TX5 0).2.2.1 ∈ zWT := z_i1 234 (by decide +kernel) rfl
theorem fl_X5_19 : Cond.fieldLink RX5 19 RX5 (TX5 1).2.1 (TX5 1).2.2.1 ∈ zWT := z_i1 235 (by decide +kernel) rfl
theorem fl_X5_23 : Cond.fieldLink RX5 23 RX5 (TX5 2).2.1 (TX5 2).2.2.1 ∈ zWT := z_i1 236 (by decide +kernel) rfl
theorem fl_X5_29 : Cond.fieldLink RX5 29 RX5 (TX5 3).2.1 (TX5 3).2.2.1 ∈ zWT := z_i1 237 (by decide +kernel) rfl
theorem fl_X5_34 : Cond.fieldLink RX5 34 RX5 (TX5 4).2.1 (TX5 4).2.2.1 ∈ zWT := z_i1 238 (by decide +kernel) rfl
theorem fl_X5_37 : Cond.fieldLink RX5 37 RX5 (TX5 5).2.1 (TX5 5).2.2.1 ∈ zWT := z_i1 239 (by decide +kernel) rfl
theorem fl_X5_47 : Cond.fieldLink RX5 47 RX5 (TX5 6).2.1 (TX5 6).2.2.1 ∈ zWT := z_i2 0 (by decide +kernel) rfl
theorem fl_X11_296 : Cond.fieldLink RX11 296 RX5 (TX5 6).2.1 (TX5 6).2.2.1 ∈ zWT := z_i2 1 (by decide +kernel) rfl
theorem fl_X0_11 : Cond.fieldLink RX0 11 RX0 (TX0 0).2.1 (TX0 0).2.2.1 ∈ zWT := z_i2 23 (by decide +kernel) rfl
theorem fl_X0_15 : Cond.fieldLink RX0 15 RX0 (TX0 1).2.1 (TX0 1).2.2.1 ∈ zWT := z_i2 24 (by decide +kernel) rfl
theorem fl_X11_317 : Cond.fieldLink RX11 317 RX0 (TX0 1).2.1 (TX0 1).2.2.1 ∈ zWT := z_i2 25 (by decide +kernel) rfl
theorem fl_X0_18 : Cond.fieldLink RX0 18 RX0 (TX0 2).2.1 (TX0 2).2.2.1 ∈ zWT := z_i2 26 (by decide +kernel) rfl
theorem fl_X11_320 : Cond.fieldLink RX11 320 RX0 (TX0 2).2.1 (TX0 2).2.2.1 ∈ zWT := z_i2 27 (by decide +kernel) rfl
theorem fl_X0_29 : Cond.fieldLink RX0 29 RX0 (TX0 3).2.1 (TX0 3).2.2.1 ∈ zWT := z_i2 28 (by decide +kernel) rfl
theorem fl_X11_377 : Cond.fieldLink RX11 377 RX0 (TX0 3).2.1 (TX0 3).2.2.1 ∈ zWT := z_i2 29 (by decide +kernel) rfl
theorem fl_X8_11 : Cond.fieldLink RX8 11 RX8 (TX8 0).2.1 (TX8 0).2.2.1 ∈ zWT := z_i2 46 (by decide +kernel) rfl
theorem fl_X11_342 : Cond.fieldLink RX11 342 RX8 (TX8 0).2.1 (TX8 0).2.2.1 ∈ zWT := z_i2 47 (by decide +kernel) rfl
theorem fl_X8_15 : Cond.fieldLink RX8 15 RX8 (TX8 1).2.1 (TX8 1).2.2.1 ∈ zWT := z_i2 48 (by decide +kernel) rfl
theorem fl_X11_346 : Cond.fieldLink RX11 346 RX8 (TX8 1).2.1 (TX8 1).2.2.1 ∈ zWT := z_i2 49 (by decide +kernel) rfl
theorem fl_X8_35 : Cond.fieldLink RX8 35 RX8 (TX8 2).2.1 (TX8 2).2.2.1 ∈ zWT := z_i2 50 (by decide +kernel) rfl
theorem fl_X8_23 : Cond.fieldLink RX8 23 RX8 (TX8 3).2.1 (TX8 3).2.2.1 ∈ zWT := z_i2 51 (by decide +kernel) rfl
theorem fl_X11_361 : Cond.fieldLink RX11 361 RX8 (TX8 3).2.1 (TX8 3).2.2.1 ∈ zWT := z_i2 52 (by decide +kernel) rfl
theorem fl_X6_9 : Cond.fieldLink RX6 9 RX6 (TX6 0).2.1 (TX6 0).2.2.1 ∈ zWT := z_i2 69 (by decide +kernel) rfl
theorem fl_X6_13 : Cond.fieldLink RX6 13 RX6 (TX6 1).2.1 (TX6 1).2.2.1 ∈ zWT := z_i2 70 (by decide +kernel) rfl
theorem fl_X6_16 : Cond.fieldLink RX6 16 RX6 (TX6 2).2.1 (TX6 2).2.2.1 ∈ zWT := z_i2 71 (by decide +kernel) rfl
theorem fl_X6_19 : Cond.fieldLink RX6 19 RX6 (TX6 3).2.1 (TX6 3).2.2.1 ∈ zWT := z_i2 72 (by decide +kernel) rfl
theorem fl_X6_22 : Cond.fieldLink RX6 22 RX6 (TX6 4).2.1 (TX6 4).2.2.1 ∈ zWT := z_i2 73 (by decide +kernel) rfl
theorem fl_X10_43 : Cond.fieldLink RX10 43 RX6 (TX6 4).2.1 (TX6 4).2.2.1 ∈ zWT := z_i2 74 (by decide +kernel) rfl
theorem fl_X11_10 : Cond.fieldLink RX11 10 RX11 (TX11 0).2.1 (TX11 0).2.2.1 ∈ zWT := z_i2 86 (by decide +kernel) rfl
theorem fl_X11_21 : Cond.fieldLink RX11 21 RX11 (TX11 1).2.1 (TX11 1).2.2.1 ∈ zWT := z_i2 87 (by decide +kernel) rfl
theorem fl_X11_28 : Cond.fieldLink RX11 28 RX11 (TX11 2).2.1 (TX11 2).2.2.1 ∈ zWT := z_i2 88 (by decide +kernel) rfl
theorem fl_X11_35 : Cond.fieldLink RX11 35 RX11 (TX11 3).2.1 (TX11 3).2.2.1 ∈ zWT := z_i2 89 (by decide +kernel) rfl
theorem fl_X11_42 : Cond.fieldLink RX11 42 RX11 (TX11 4).2.1 (TX11 4).2.2.1 ∈ zWT := z_i2 90 (by decide +kernel) rfl
theorem fl_X11_49 : Cond.fieldLink RX11 49 RX11 (TX11 5).2.1 (TX11 5).2.2.1 ∈ zWT := z_i2 91 (by decide +kernel) rfl
theorem fl_X11_56 : Cond.fieldLink RX11 56 RX11 (TX11 6).2.1 (TX11 6).2.2.1 ∈ zWT := z_i2 92 (by decide +kernel) rfl
theorem fl_X11_63 : Cond.fieldLink RX11 63 RX11 (TX11 7).2.1 (TX11 7).2.2.1 ∈ zWT := z_i2 93 (by decide +kernel) rfl
theorem fl_X11_70 : Cond.fieldLink RX11 70 RX11 (TX11 8).2.1 (TX11 8).2.2.1 ∈ zWT := z_i2 94 (by decide +kernel) rfl
theorem fl_X11_76 : Cond.fieldLink RX11 76 RX11 (TX11 9).2.1 (TX11 9).2.2.1 ∈ zWT := z_i2 95 (by decide +kernel) rfl
theorem fl_X11_84 : Cond.fieldLink RX11 84 RX11 (TX11 10).2.1 (TX11 10).2.2.1 ∈ zWT := z_i2 96 (by decide +kernel) rfl
theorem fl_X11_88 : Cond.fieldLink RX11 88 RX11 (TX11 11).2.1 (TX11 11).2.2.1 ∈ zWT := z_i2 97 (by decide +kernel) rfl
theorem fl_X9_37 : Cond.fieldLink RX9 37 RX9 "LEAST" "[I" ∈ zWT := z_i2 135 (by decide +kernel) rfl
theorem fl_X9_40 : Cond.fieldLink RX9 40 RX9 "MOST" "[I" ∈ zWT := z_i2 137 (by decide +kernel) rfl
theorem fl_X0_59 : Cond.fieldLink RX0 59 RX0 "OWN" "[I" ∈ zWT := z_i4 187 (by decide +kernel) rfl
theorem fl_X0_26 : Cond.fieldLink RX0 26 RX0 "ABOVE" "[I" ∈ zWT := z_i4 192 (by decide +kernel) rfl
theorem fl_X12_124 : Cond.fieldLink RX12 124 RX12 (TX12 1).2.1 (TX12 1).2.2.1 ∈ zWT := z_i5 44 (by decide +kernel) rfl
theorem fl_X12_9 : Cond.fieldLink RX12 9 RX12 (TX12 2).2.1 (TX12 2).2.2.1 ∈ zWT := z_i5 45 (by decide +kernel) rfl
theorem fl_X12_15 : Cond.fieldLink RX12 15 RX12 (TX12 3).2.1 (TX12 3).2.2.1 ∈ zWT := z_i5 46 (by decide +kernel) rfl
theorem fl_X12_18 : Cond.fieldLink RX12 18 RX12 (TX12 4).2.1 (TX12 4).2.2.1 ∈ zWT := z_i5 47 (by decide +kernel) rfl
theorem fl_X12_21 : Cond.fieldLink RX12 21 RX12 (TX12 5).2.1 (TX12 5).2.2.1 ∈ zWT := z_i5 48 (by decide +kernel) rfl
theorem fl_X12_24 : Cond.fieldLink RX12 24 RX12 (TX12 6).2.1 (TX12 6).2.2.1 ∈ zWT := z_i5 49 (by decide +kernel) rfl
theorem fl_X12_27 : Cond.fieldLink RX12 27 RX12 (TX12 7).2.1 (TX12 7).2.2.1 ∈ zWT := z_i5 50 (by decide +kernel) rfl
theorem fl_X12_131 : Cond.fieldLink RX12 131 RX12 (TX12 8).2.1 (TX12 8).2.2.1 ∈ zWT := z_i5 51 (by decide +kernel) rfl
theorem fl_X12_30 : Cond.fieldLink RX12 30 RX12 (TX12 9).2.1 (TX12 9).2.2.1 ∈ zWT := z_i5 52 (by decide +kernel) rfl
theorem fl_X12_33 : Cond.fieldLink RX12 33 RX12 (TX12 10).2.1 (TX12 10).2.2.1 ∈ zWT := z_i5 53 (by decide +kernel) rfl
theorem fl_X12_157 : Cond.fieldLink RX12 157 RX12 (TX12 11).2.1 (TX12 11).2.2.1 ∈ zWT := z_i5 54 (by decide +kernel) rfl
theorem fl_X12_36 : Cond.fieldLink RX12 36 RX12 (TX12 12).2.1 (TX12 12).2.2.1 ∈ zWT := z_i5 55 (by decide +kernel) rfl
theorem fl_X12_39 : Cond.fieldLink RX12 39 RX12 (TX12 13).2.1 (TX12 13).2.2.1 ∈ zWT := z_i5 56 (by decide +kernel) rfl
theorem fl_X12_171 : Cond.fieldLink RX12 171 RX12 (TX12 14).2.1 (TX12 14).2.2.1 ∈ zWT := z_i5 57 (by decide +kernel) rfl
theorem fl_X12_168 : Cond.fieldLink RX12 168 RX12 (TX12 15).2.1 (TX12 15).2.2.1 ∈ zWT := z_i5 58 (by decide +kernel) rfl
theorem fl_X12_42 : Cond.fieldLink RX12 42 RX12 (TX12 16).2.1 (TX12 16).2.2.1 ∈ zWT := z_i5 59 (by decide +kernel) rfl
theorem fl_X12_45 : Cond.fieldLink RX12 45 RX12 (TX12 17).2.1 (TX12 17).2.2.1 ∈ zWT := z_i5 60 (by decide +kernel) rfl
theorem fl_X12_48 : Cond.fieldLink RX12 48 RX12 (TX12 18).2.1 (TX12 18).2.2.1 ∈ zWT := z_i5 61 (by decide +kernel) rfl
theorem fl_X12_51 : Cond.fieldLink RX12 51 RX12 (TX12 19).2.1 (TX12 19).2.2.1 ∈ zWT := z_i5 62 (by decide +kernel) rfl
theorem fl_X12_54 : Cond.fieldLink RX12 54 RX12 (TX12 20).2.1 (TX12 20).2.2.1 ∈ zWT := z_i5 63 (by decide +kernel) rfl
theorem fl_X12_188 : Cond.fieldLink RX12 188 RX12 (TX12 21).2.1 (TX12 21).2.2.1 ∈ zWT := z_i5 64 (by decide +kernel) rfl
theorem fl_X12_191 : Cond.fieldLink RX12 191 RX12 (TX12 22).2.1 (TX12 22).2.2.1 ∈ zWT := z_i5 65 (by decide +kernel) rfl
theorem fl_X12_194 : Cond.fieldLink RX12 194 RX12 (TX12 23).2.1 (TX12 23).2.2.1 ∈ zWT := z_i5 66 (by decide +kernel) rfl
theorem fl_X12_200 : Cond.fieldLink RX12 200 RX12 (TX12 24).2.1 (TX12 24).2.2.1 ∈ zWT := z_i5 67 (by decide +kernel) rfl
theorem fl_X12_197 : Cond.fieldLink RX12 197 RX12 (TX12 25).2.1 (TX12 25).2.2.1 ∈ zWT := z_i5 68 (by decide +kernel) rfl
theorem fl_X12_58 : Cond.fieldLink RX12 58 RX12 (TX12 26).2.1 (TX12 26).2.2.1 ∈ zWT := z_i5 69 (by decide +kernel) rfl
theorem fl_X12_61 : Cond.fieldLink RX12 61 RX12 (TX12 27).2.1 (TX12 27).2.2.1 ∈ zWT := z_i5 70 (by decide +kernel) rfl
theorem fl_X12_64 : Cond.fieldLink RX12 64 RX12 (TX12 28).2.1 (TX12 28).2.2.1 ∈ zWT := z_i5 71 (by decide +kernel) rfl
theorem fl_X12_67 : Cond.fieldLink RX12 67 RX12 (TX12 29).2.1 (TX12 29).2.2.1 ∈ zWT := z_i5 72 (by decide +kernel) rfl
theorem fl_X12_71 : Cond.fieldLink RX12 71 RX12 (TX12 30).2.1 (TX12 30).2.2.1 ∈ zWT := z_i5 73 (by decide +kernel) rfl
theorem fl_X12_74 : Cond.fieldLink RX12 74 RX12 (TX12 31).2.1 (TX12 31).2.2.1 ∈ zWT := z_i5 74 (by decide +kernel) rfl
theorem fl_X12_77 : Cond.fieldLink RX12 77 RX12 (TX12 32).2.1 (TX12 32).2.2.1 ∈ zWT := z_i5 75 (by decide +kernel) rfl
theorem fl_X12_254 : Cond.fieldLink RX12 254 RX12 (TX12 33).2.1 (TX12 33).2.2.1 ∈ zWT := z_i5 76 (by decide +kernel) rfl
theorem fl_X12_270 : Cond.fieldLink RX12 270 RX12 (TX12 34).2.1 (TX12 34).2.2.1 ∈ zWT := z_i5 77 (by decide +kernel) rfl
theorem fl_X12_80 : Cond.fieldLink RX12 80 RX12 (TX12 35).2.1 (TX12 35).2.2.1 ∈ zWT := z_i5 78 (by decide +kernel) rfl
theorem fl_X12_83 : Cond.fieldLink RX12 83 RX12 (TX12 36).2.1 (TX12 36).2.2.1 ∈ zWT := z_i5 79 (by decide +kernel) rfl
theorem fl_X12_86 : Cond.fieldLink RX12 86 RX12 (TX12 37).2.1 (TX12 37).2.2.1 ∈ zWT := z_i5 80 (by decide +kernel) rfl
theorem fl_X12_89 : Cond.fieldLink RX12 89 RX12 (TX12 38).2.1 (TX12 38).2.2.1 ∈ zWT := z_i5 81 (by decide +kernel) rfl
theorem fl_X12_273 : Cond.fieldLink RX12 273 RX12 (TX12 39).2.1 (TX12 39).2.2.1 ∈ zWT := z_i5 82 (by decide +kernel) rfl
theorem fl_X12_92 : Cond.fieldLink RX12 92 RX12 (TX12 40).2.1 (TX12 40).2.2.1 ∈ zWT := z_i5 83 (by decide +kernel) rfl
theorem fl_X12_95 : Cond.fieldLink RX12 95 RX12 (TX12 41).2.1 (TX12 41).2.2.1 ∈ zWT := z_i5 84 (by decide +kernel) rfl
theorem fl_X12_358 : Cond.fieldLink RX12 358 RX12 (TX12 42).2.1 (TX12 42).2.2.1 ∈ zWT := z_i5 85 (by decide +kernel) rfl
theorem fl_X12_361 : Cond.fieldLink RX12 361 RX12 (TX12 43).2.1 (TX12 43).2.2.1 ∈ zWT := z_i5 86 (by decide +kernel) rfl
theorem fl_X12_364 : Cond.fieldLink RX12 364 RX12 (TX12 44).2.1 (TX12 44).2.2.1 ∈ zWT := z_i5 87 (by decide +kernel) rfl
theorem fl_X12_367 : Cond.fieldLink RX12 367 RX12 (TX12 45).2.1 (TX12 45).2.2.1 ∈ zWT := z_i5 88 (by decide +kernel) rfl
theorem fl_X12_370 : Cond.fieldLink RX12 370 RX12 (TX12 46).2.1 (TX12 46).2.2.1 ∈ zWT := z_i5 89 (by decide +kernel) rfl
theorem fl_X12_373 : Cond.fieldLink RX12 373 RX12 (TX12 47).2.1 (TX12 47).2.2.1 ∈ zWT := z_i5 90 (by decide +kernel) rfl
theorem fl_X12_98 : Cond.fieldLink RX12 98 RX12 (TX12 48).2.1 (TX12 48).2.2.1 ∈ zWT := z_i5 91 (by decide +kernel) rfl
theorem fl_X12_376 : Cond.fieldLink RX12 376 RX12 (TX12 49).2.1 (TX12 49).2.2.1 ∈ zWT := z_i5 92 (by decide +kernel) rfl
theorem fl_X12_101 : Cond.fieldLink RX12 101 RX12 (TX12 50).2.1 (TX12 50).2.2.1 ∈ zWT := z_i5 93 (by decide +kernel) rfl
theorem fl_X12_379 : Cond.fieldLink RX12 379 RX12 (TX12 51).2.1 (TX12 51).2.2.1 ∈ zWT := z_i5 94 (by decide +kernel) rfl
theorem fl_X12_104 : Cond.fieldLink RX12 104 RX12 (TX12 52).2.1 (TX12 52).2.2.1 ∈ zWT := z_i5 95 (by decide +kernel) rfl
theorem fl_X12_107 : Cond.fieldLink RX12 107 RX12 (TX12 53).2.1 (TX12 53).2.2.1 ∈ zWT := z_i5 96 (by decide +kernel) rfl
theorem fl_X12_110 : Cond.fieldLink RX12 110 RX12 (TX12 54).2.1 (TX12 54).2.2.1 ∈ zWT := z_i5 97 (by decide +kernel) rfl
theorem fl_X12_113 : Cond.fieldLink RX12 113 RX12 (TX12 55).2.1 (TX12 55).2.2.1 ∈ zWT := z_i5 98 (by decide +kernel) rfl
theorem fl_X12_117 : Cond.fieldLink RX12 117 RX12 (TX12 56).2.1 (TX12 56).2.2.1 ∈ zWT := z_i5 99 (by decide +kernel) rfl
theorem cl_L_7 : Cond.classLink RL 7 RX11 ∈ zWT := z_i1 17 (by decide +kernel) rfl
theorem cl_X11_7 : Cond.classLink RX11 7 RX9 ∈ zWT := z_i1 25 (by decide +kernel) rfl
theorem cl_X9_11 : Cond.classLink RX9 11 "[[I" ∈ zWT := z_i1 31 (by decide +kernel) rfl
theorem cl_X11_16 : Cond.classLink RX11 16 RX4 ∈ zWT := z_i1 63 (by decide +kernel) rfl
theorem cl_X11_25 : Cond.classLink RX11 25 RX2 ∈ zWT := z_i1 101 (by decide +kernel) rfl
theorem cl_X11_32 : Cond.classLink RX11 32 RX3 ∈ zWT := z_i1 128 (by decide +kernel) rfl
theorem cl_X11_39 : Cond.classLink RX11 39 RX7 ∈ zWT := z_i1 149 (by decide +kernel) rfl
theorem cl_X11_46 : Cond.classLink RX11 46 RX10 ∈ zWT := z_i1 182 (by decide +kernel) rfl
theorem cl_X11_53 : Cond.classLink RX11 53 RX1 ∈ zWT := z_i1 202 (by decide +kernel) rfl
theorem cl_X11_60 : Cond.classLink RX11 60 RX5 ∈ zWT := z_i1 228 (by decide +kernel) rfl
theorem cl_X11_67 : Cond.classLink RX11 67 RX0 ∈ zWT := z_i2 17 (by decide +kernel) rfl
theorem cl_X11_74 : Cond.classLink RX11 74 RX8 ∈ zWT := z_i2 39 (by decide +kernel) rfl
theorem cl_X11_81 : Cond.classLink RX11 81 RX6 ∈ zWT := z_i2 63 (by decide +kernel) rfl
theorem cl_L_10 : Cond.classLink RL 10 RX12 ∈ zWT := z_i5 38 (by decide +kernel) rfl
theorem in_X11 : Cond.instantiable RX11 12 ∈ zWT := z_i1 18 (by decide +kernel) rfl
theorem in_X9 : Cond.instantiable RX9 6 ∈ zWT := z_i1 26 (by decide +kernel) rfl
theorem in_X4 : Cond.instantiable RX4 9 ∈ zWT := z_i1 64 (by decide +kernel) rfl
theorem in_X2 : Cond.instantiable RX2 6 ∈ zWT := z_i1 102 (by decide +kernel) rfl
theorem in_X3 : Cond.instantiable RX3 4 ∈ zWT := z_i1 129 (by decide +kernel) rfl
theorem in_X7 : Cond.instantiable RX7 7 ∈ zWT := z_i1 150 (by decide +kernel) rfl
theorem in_X10 : Cond.instantiable RX10 4 ∈ zWT := z_i1 183 (by decide +kernel) rfl
theorem in_X1 : Cond.instantiable RX1 6 ∈ zWT := z_i1 203 (by decide +kernel) rfl
theorem in_X5 : Cond.instantiable RX5 7 ∈ zWT := z_i1 229 (by decide +kernel) rfl
theorem in_X0 : Cond.instantiable RX0 4 ∈ zWT := z_i2 18 (by decide +kernel) rfl
theorem in_X8 : Cond.instantiable RX8 4 ∈ zWT := z_i2 41 (by decide +kernel) rfl
theorem in_X6 : Cond.instantiable RX6 5 ∈ zWT := z_i2 64 (by decide +kernel) rfl
theorem in_X12 : Cond.instantiable RX12 57 ∈ zWT := z_i5 39 (by decide +kernel) rfl
theorem it_X11 : Cond.initialized RX11 ∈ zWT := z_i1 1 (by decide +kernel) rfl
theorem it_X9 : Cond.initialized RX9 ∈ zWT := z_i1 2 (by decide +kernel) rfl
theorem it_X4 : Cond.initialized RX4 ∈ zWT := z_i1 3 (by decide +kernel) rfl
theorem it_X2 : Cond.initialized RX2 ∈ zWT := z_i1 4 (by decide +kernel) rfl
theorem it_X3 : Cond.initialized RX3 ∈ zWT := z_i1 5 (by decide +kernel) rfl
theorem it_X7 : Cond.initialized RX7 ∈ zWT := z_i1 6 (by decide +kernel) rfl
theorem it_X10 : Cond.initialized RX10 ∈ zWT := z_i1 7 (by decide +kernel) rfl
theorem it_X1 : Cond.initialized RX1 ∈ zWT := z_i1 8 (by decide +kernel) rfl
theorem it_X5 : Cond.initialized RX5 ∈ zWT := z_i1 9 (by decide +kernel) rfl
theorem it_X0 : Cond.initialized RX0 ∈ zWT := z_i1 10 (by decide +kernel) rfl
theorem it_X8 : Cond.initialized RX8 ∈ zWT := z_i1 11 (by decide +kernel) rfl
theorem it_X6 : Cond.initialized RX6 ∈ zWT := z_i1 12 (by decide +kernel) rfl
theorem it_X12 : Cond.initialized RX12 ∈ zWT := z_i1 13 (by decide +kernel) rfl
theorem it_J9 : Cond.initialized RJ9 ∈ zWT := z_i1 15 (by decide +kernel) rfl
theorem it_J6 : Cond.initialized RJ6 ∈ zWT := z_i1 16 (by decide +kernel) rfl
theorem it_sys : Cond.initialized "java/lang/System" ∈ zWT := z_i1 14 (by decide +kernel) rfl
theorem co_X11_124 : Cond.constant RX11 124 (-2000000000) ∈ zWT := z_i2 206 (by decide +kernel) rfl
theorem co_J6_265 : Cond.constant RJ6 265 (1431655765) ∈ zWT := z_i3 162 (by decide +kernel) rfl
theorem co_J6_266 : Cond.constant RJ6 266 (858993459) ∈ zWT := z_i3 163 (by decide +kernel) rfl
theorem co_J6_267 : Cond.constant RJ6 267 (252645135) ∈ zWT := z_i3 164 (by decide +kernel) rfl
theorem co_X7_71 : Cond.constant RX7 71 (1103515245) ∈ zWT := z_i4 81 (by decide +kernel) rfl
theorem co_X12_187 : Cond.constant RX12 187 (-2000000000) ∈ zWT := z_i6 55 (by decide +kernel) rfl
theorem co_X12_354 : Cond.constant RX12 354 (1103515245) ∈ zWT := z_i7 57 (by decide +kernel) rfl
theorem co_X11_178 : Cond.constantLong RX11 178 (-9223372036854775808) ∈ zWT := z_i3 134 (by decide +kernel) rfl
theorem co_X11_183 : Cond.constantLong RX11 183 (12) ∈ zWT := z_i3 135 (by decide +kernel) rfl
theorem co_X12_155 : Cond.constantLong RX12 155 (2) ∈ zWT := z_i6 2 (by decide +kernel) rfl
theorem co_X12_286 : Cond.constantLong RX12 286 (-9223372036854775808) ∈ zWT := z_i6 170 (by decide +kernel) rfl
theorem co_X12_291 : Cond.constantLong RX12 291 (12) ∈ zWT := z_i6 175 (by decide +kernel) rfl
theorem co_L_163 : Cond.constantLong RL 163 (4294967295) ∈ zWT := z_i7 185 (by decide +kernel) rfl
theorem ac_int : Cond.arrayClass .int ∈ zWT := z_i1 62 (by decide +kernel) rfl
theorem ac_long : Cond.arrayClass .long ∈ zWT := z_i2 62 (by decide +kernel) rfl
theorem na_copy : Cond.native arraycopyName ∈ zWT := z_i2 226 (by decide +kernel) rfl
theorem ac_byte : Cond.arrayClass .byte ∈ zWT := z_i5 215 (by decide +kernel) rfl
theorem ac_short : Cond.arrayClass .short ∈ zWT := z_i5 216 (by decide +kernel) rfl
theorem st_copy : Cond.static arraycopyName ∈ zWT := z_i2 225 (by decide +kernel) rfl
theorem ob_inst : Cond.instanceMethod objectInit ∈ zWT := z_i1 23 (by decide +kernel) rfl
theorem ob_code : Cond.code objectInit ⟨#[0xb1]⟩ 1 none ∈ zWT := z_i1 24 rfl rfl
end
section
set_option maxRecDepth 20000 in
theorem inX0 : ∀ w ∈ u_ws RX0 TX0 4, w ∈ zWT := show ∀ w ∈ [u_lay RX0 TX0 0, u_lay RX0 TX0 1, u_lay RX0 TX0 2, u_lay RX0 TX0 3], w ∈ zWT from List.forall_mem_cons.mpr ⟨z_i2 30 (by decide +kernel) rfl, List.forall_mem_cons.mpr ⟨z_i2 32 (by decide +kernel) rfl, List.forall_mem_cons.mpr ⟨z_i2 34 (by decide +kernel) rfl, List.forall_mem_cons.mpr ⟨z_i2 36 (by decide +kernel) rfl, fun _ h => absurd h List.not_mem_nil⟩⟩⟩⟩
set_option maxRecDepth 20000 in
theorem inX1 : ∀ w ∈ u_ws RX1 TX1 6, w ∈ zWT := show ∀ w ∈ [u_lay RX1 TX1 0, u_lay RX1 TX1 1, u_lay RX1 TX1 2, u_lay RX1 TX1 3, u_lay RX1 TX1 4, u_lay RX1 TX1 5], w ∈ zWT from List.forall_mem_cons.mpr ⟨z_i1 215 (by decide +kernel) rfl, List.forall_mem_cons.mpr ⟨z_i1 217 (by decide +kernel) rfl, List.forall_mem_cons.mpr ⟨z_i1 219 (by decide +kernel) rfl, List.forall_mem_cons.mpr ⟨z_i1 221 (by decide +kernel) rfl, List.forall_mem_cons.mpr ⟨z_i1 223 (by decide +kernel) rfl, List.forall_mem_cons.mpr ⟨z_i1 225 (by decide +kernel) rfl, fun _ h => absurd h List.not_mem_nil⟩⟩⟩⟩⟩⟩
set_option maxRecDepth 20000 in
theorem inX2 : ∀ w ∈ u_ws RX2 TX2 6, w ∈ zWT := show ∀ w ∈ [u_lay RX2 TX2 0, u_lay RX2 TX2 1, u_lay RX2 TX2 2, u_lay RX2 TX2 3, u_lay RX2 TX2 4, u_lay RX2 TX2 5], w ∈ zWT from List.forall_mem_cons.mpr ⟨z_i1 115 (by decide +kernel) rfl, List.forall_mem_cons.mpr ⟨z_i1 117 (by decide +kernel) rfl, List.forall_mem_cons.mpr ⟨z_i1 119 (by decide +kernel) rfl, List.forall_mem_cons.mpr ⟨z_i1 121 (by decide +kernel) rfl, List.forall_mem_cons.mpr ⟨z_i1 123 (by decide +kernel) rfl, List.forall_mem_cons.mpr ⟨z_i1 125 (by decide +kernel) rfl, fun _ h => absurd h List.not_mem_nil⟩⟩⟩⟩⟩⟩
set_option maxRecDepth 20000 in
theorem inX3 : ∀ w ∈ u_ws RX3 TX3 4, w ∈ zWT := show ∀ w ∈ [u_lay RX3 TX3 0, u_lay RX3 TX3 1, u_lay RX3 TX3 2, u_lay RX3 TX3 3], w ∈ zWT from List.forall_mem_cons.mpr ⟨z_i1 140 (by decide +kernel) rfl, List.forall_mem_cons.mpr ⟨z_i1 142 (by decide +kernel) rfl, List.forall_mem_cons.mpr ⟨z_i1 144 (by decide +kernel) rfl, List.forall_mem_cons.mpr ⟨z_i1 146 (by decide +kernel) rfl, fun _ h => absurd h List.not_mem_nil⟩⟩⟩⟩
set_option maxRecDepth 20000 in
theorem inX4 : ∀ w ∈ u_ws RX4 TX4 9, w ∈ zWT := show ∀ w ∈ [u_lay RX4 TX4 0, u_lay RX4 TX4 1, u_lay RX4 TX4 2, u_lay RX4 TX4 3, u_lay RX4 TX4 4, u_lay RX4 TX4 5, u_lay RX4 TX4 6, u_lay RX4 TX4 7, u_lay RX4 TX4 8], w ∈ zWT from List.forall_mem_cons.mpr ⟨z_i1 82 (by decide +kernel) rfl, List.forall_mem_cons.mpr ⟨z_i1 84 (by decide +kernel) rfl, List.forall_mem_cons.mpr ⟨z_i1 86 (by decide +kernel) rfl, List.forall_mem_cons.mpr ⟨z_i1 88 (by decide +kernel) rfl, List.forall_mem_cons.mpr ⟨z_i1 90 (by decide +kernel) rfl, List.forall_mem_cons.mpr ⟨z_i1 92 (by decide +kernel) rfl, List.forall_mem_cons.mpr ⟨z_i1 94 (by decide +kernel) rfl, List.forall_mem_cons.mpr ⟨z_i1 96 (by decide +kernel) rfl, List.forall_mem_cons.mpr ⟨z_i1 98 (by decide +kernel) rfl, fun _ h => absurd h List.not_mem_nil⟩⟩⟩⟩⟩⟩⟩⟩⟩
set_option maxRecDepth 20000 in
theorem inX5 : ∀ w ∈ u_ws RX5 TX5 7, w ∈ zWT := show ∀ w ∈ [u_lay RX5 TX5 0, u_lay RX5 TX5 1, u_lay RX5 TX5 2, u_lay RX5 TX5 3, u_lay RX5 TX5 4, u_lay RX5 TX5 5, u_lay RX5 TX5 6], w ∈ zWT from List.forall_mem_cons.mpr ⟨z_i2 2 (by decide +kernel) rfl, List.forall_mem_cons.mpr ⟨z_i2 4 (by decide +kernel) rfl, List.forall_mem_cons.mpr ⟨z_i2 6 (by decide +kernel) rfl, List.forall_mem_cons.mpr ⟨z_i2 8 (by decide +kernel) rfl, List.forall_mem_cons.mpr ⟨z_i2 10 (by decide +kernel) rfl, List.forall_mem_cons.mpr ⟨z_i2 12 (by decide +kernel) rfl, List.forall_mem_cons.mpr ⟨z_i2 14 (by decide +kernel) rfl, fun _ h => absurd h List.not_mem_nil⟩⟩⟩⟩⟩⟩⟩
set_option maxRecDepth 20000 in
theorem inX6 : ∀ w ∈ u_ws RX6 TX6 5, w ∈ zWT := show ∀ w ∈ [u_lay RX6 TX6 0, u_lay RX6 TX6 1, u_lay RX6 TX6 2, u_lay RX6 TX6 3, u_lay RX6 TX6 4], w ∈ zWT from List.forall_mem_cons.mpr ⟨z_i2 75 (by decide +kernel) rfl, List.forall_mem_cons.mpr ⟨z_i2 77 (by decide +kernel) rfl, List.forall_mem_cons.mpr ⟨z_i2 79 (by decide +kernel) rfl, List.forall_mem_cons.mpr ⟨z_i2 81 (by decide +kernel) rfl, List.forall_mem_cons.mpr ⟨z_i2 83 (by decide +kernel) rfl, fun _ h => absurd h List.not_mem_nil⟩⟩⟩⟩⟩
set_option maxRecDepth 20000 in
theorem inX7 : ∀ w ∈ u_ws RX7 TX7 7, w ∈ zWT := show ∀ w ∈ [u_lay RX7 TX7 0, u_lay RX7 TX7 1, u_lay RX7 TX7 2, u_lay RX7 TX7 3, u_lay RX7 TX7 4, u_lay RX7 TX7 5, u_lay RX7 TX7 6], w ∈ zWT from List.forall_mem_cons.mpr ⟨z_i1 167 (by decide +kernel) rfl, List.forall_mem_cons.mpr ⟨z_i1 169 (by decide +kernel) rfl, List.forall_mem_cons.mpr ⟨z_i1 171 (by decide +kernel) rfl, List.forall_mem_cons.mpr ⟨z_i1 173 (by decide +kernel) rfl, List.forall_mem_cons.mpr ⟨z_i1 175 (by decide +kernel) rfl, List.forall_mem_cons.mpr ⟨z_i1 177 (by decide +kernel) rfl, List.forall_mem_cons.mpr ⟨z_i1 179 (by decide +kernel) rfl, fun _ h => absurd h List.not_mem_nil⟩⟩⟩⟩⟩⟩⟩
set_option maxRecDepth 20000 in
theorem inX8 : ∀ w ∈ u_ws RX8 TX8 4, w ∈ zWT := show ∀ w ∈ [u_lay RX8 TX8 0, u_lay RX8 TX8 1, u_lay RX8 TX8 2, u_lay RX8 TX8 3], w ∈ zWT from List.forall_mem_cons.mpr ⟨z_i2 53 (by decide +kernel) rfl, List.forall_mem_cons.mpr ⟨z_i2 55 (by decide +kernel) rfl, List.forall_mem_cons.mpr ⟨z_i2 57 (by decide +kernel) rfl, List.forall_mem_cons.mpr ⟨z_i2 59 (by decide +kernel) rfl, fun _ h => absurd h List.not_mem_nil⟩⟩⟩⟩
set_option maxRecDepth 20000 in
theorem inX9 : ∀ w ∈ u_ws RX9 TX9 6, w ∈ zWT := show ∀ w ∈ [u_lay RX9 TX9 0, u_lay RX9 TX9 1, u_lay RX9 TX9 2, u_lay RX9 TX9 3, u_lay RX9 TX9 4, u_lay RX9 TX9 5], w ∈ zWT from List.forall_mem_cons.mpr ⟨z_i1 49 (by decide +kernel) rfl, List.forall_mem_cons.mpr ⟨z_i1 51 (by decide +kernel) rfl, List.forall_mem_cons.mpr ⟨z_i1 53 (by decide +kernel) rfl, List.forall_mem_cons.mpr ⟨z_i1 55 (by decide +kernel) rfl, List.forall_mem_cons.mpr ⟨z_i1 57 (by decide +kernel) rfl, List.forall_mem_cons.mpr ⟨z_i1 59 (by decide +kernel) rfl, fun _ h => absurd h List.not_mem_nil⟩⟩⟩⟩⟩⟩
set_option maxRecDepth 20000 in
theorem inX10 : ∀ w ∈ u_ws RX10 TX10 4, w ∈ zWT := show ∀ w ∈ [u_lay RX10 TX10 0, u_lay RX10 TX10 1, u_lay RX10 TX10 2, u_lay RX10 TX10 3], w ∈ zWT from List.forall_mem_cons.mpr ⟨z_i1 193 (by decide +kernel) rfl, List.forall_mem_cons.mpr ⟨z_i1 195 (by decide +kernel) rfl, List.forall_mem_cons.mpr ⟨z_i1 197 (by decide +kernel) rfl, List.forall_mem_cons.mpr ⟨z_i1 199 (by decide +kernel) rfl, fun _ h => absurd h List.not_mem_nil⟩⟩⟩⟩
set_option maxRecDepth 20000 in
theorem inX11 : ∀ w ∈ u_ws RX11 TX11 12, w ∈ zWT := show ∀ w ∈ [u_lay RX11 TX11 0, u_lay RX11 TX11 1, u_lay RX11 TX11 2, u_lay RX11 TX11 3, u_lay RX11 TX11 4, u_lay RX11 TX11 5, u_lay RX11 TX11 6, u_lay RX11 TX11 7, u_lay RX11 TX11 8, u_lay RX11 TX11 9, u_lay RX11 TX11 10, u_lay RX11 TX11 11], w ∈ zWT from List.forall_mem_cons.mpr ⟨z_i2 98 (by decide +kernel) rfl, List.forall_mem_cons.mpr ⟨z_i2 100 (by decide +kernel) rfl, List.forall_mem_cons.mpr ⟨z_i2 102 (by decide +kernel) rfl, List.forall_mem_cons.mpr ⟨z_i2 104 (by decide +kernel) rfl, List.forall_mem_cons.mpr ⟨z_i2 106 (by decide +kernel) rfl, List.forall_mem_cons.mpr ⟨z_i2 108 (by decide +kernel) rfl, List.forall_mem_cons.mpr ⟨z_i2 110 (by decide +kernel) rfl, List.forall_mem_cons.mpr ⟨z_i2 112 (by decide +kernel) rfl, List.forall_mem_cons.mpr ⟨z_i2 114 (by decide +kernel) rfl, List.forall_mem_cons.mpr ⟨z_i2 116 (by decide +kernel) rfl, List.forall_mem_cons.mpr ⟨z_i2 118 (by decide +kernel) rfl, List.forall_mem_cons.mpr ⟨z_i2 120 (by decide +kernel) rfl, fun _ h => absurd h List.not_mem_nil⟩⟩⟩⟩⟩⟩⟩⟩⟩⟩⟩⟩
set_option maxRecDepth 20000 in
theorem inX12 : ∀ w ∈ u_ws RX12 TX12 57, w ∈ zWT := show ∀ w ∈ [u_lay RX12 TX12 0, u_lay RX12 TX12 1, u_lay RX12 TX12 2, u_lay RX12 TX12 3, u_lay RX12 TX12 4, u_lay RX12 TX12 5, u_lay RX12 TX12 6, u_lay RX12 TX12 7, u_lay RX12 TX12 8, u_lay RX12 TX12 9, u_lay RX12 TX12 10, u_lay RX12 TX12 11, u_lay RX12 TX12 12, u_lay RX12 TX12 13, u_lay RX12 TX12 14, u_lay RX12 TX12 15, u_lay RX12 TX12 16, u_lay RX12 TX12 17, u_lay RX12 TX12 18, u_lay RX12 TX12 19, u_lay RX12 TX12 20, u_lay RX12 TX12 21, u_lay RX12 TX12 22, u_lay RX12 TX12 23, u_lay RX12 TX12 24, u_lay RX12 TX12 25, u_lay RX12 TX12 26, u_lay RX12 TX12 27, u_lay RX12 TX12 28, u_lay RX12 TX12 29, u_lay RX12 TX12 30, u_lay RX12 TX12 31, u_lay RX12 TX12 32, u_lay RX12 TX12 33, u_lay RX12 TX12 34, u_lay RX12 TX12 35, u_lay RX12 TX12 36, u_lay RX12 TX12 37, u_lay RX12 TX12 38, u_lay RX12 TX12 39, u_lay RX12 TX12 40, u_lay RX12 TX12 41, u_lay RX12 TX12 42, u_lay RX12 TX12 43, u_lay RX12 TX12 44, u_lay RX12 TX12 45, u_lay RX12 TX12 46, u_lay RX12 TX12 47, u_lay RX12 TX12 48, u_lay RX12 TX12 49, u_lay RX12 TX12 50, u_lay RX12 TX12 51, u_lay RX12 TX12 52, u_lay RX12 TX12 53, u_lay RX12 TX12 54, u_lay RX12 TX12 55, u_lay RX12 TX12 56], w ∈ zWT from List.forall_mem_cons.mpr ⟨z_i5 100 (by decide +kernel) rfl, List.forall_mem_cons.mpr ⟨z_i5 102 (by decide +kernel) rfl, List.forall_mem_cons.mpr ⟨z_i5 104 (by decide +kernel) rfl, List.forall_mem_cons.mpr ⟨z_i5 106 (by decide +kernel) rfl, List.forall_mem_cons.mpr ⟨z_i5 108 (by decide +kernel) rfl, List.forall_mem_cons.mpr ⟨z_i5 110 (by decide +kernel) rfl, List.forall_mem_cons.mpr ⟨z_i5 112 (by decide +kernel) rfl, List.forall_mem_cons.mpr ⟨z_i5 114 (by decide +kernel) rfl, List.forall_mem_cons.mpr ⟨z_i5 116 (by decide +kernel) rfl, List.forall_mem_cons.mpr ⟨z_i5 118 (by decide +kernel) rfl, List.forall_mem_cons.mpr ⟨z_i5 120 (by decide +kernel) rfl, List.forall_mem_cons.mpr ⟨z_i5 122 (by decide +kernel) rfl, List.forall_mem_cons.mpr ⟨z_i5 124 (by decide +kernel) rfl, List.forall_mem_cons.mpr ⟨z_i5 126 (by decide +kernel) rfl, List.forall_mem_cons.mpr ⟨z_i5 128 (by decide +kernel) rfl, List.forall_mem_cons.mpr ⟨z_i5 130 (by decide +kernel) rfl, List.forall_mem_cons.mpr ⟨z_i5 132 (by decide +kernel) rfl, List.forall_mem_cons.mpr ⟨z_i5 134 (by decide +kernel) rfl, List.forall_mem_cons.mpr ⟨z_i5 136 (by decide +kernel) rfl, List.forall_mem_cons.mpr ⟨z_i5 138 (by decide +kernel) rfl, List.forall_mem_cons.mpr ⟨z_i5 140 (by decide +kernel) rfl, List.forall_mem_cons.mpr ⟨z_i5 142 (by decide +kernel) rfl, List.forall_mem_cons.mpr ⟨z_i5 144 (by decide +kernel) rfl, List.forall_mem_cons.mpr ⟨z_i5 146 (by decide +kernel) rfl, List.forall_mem_cons.mpr ⟨z_i5 148 (by decide +kernel) rfl, List.forall_mem_cons.mpr ⟨z_i5 150 (by decide +kernel) rfl, List.forall_mem_cons.mpr ⟨z_i5 152 (by decide +kernel) rfl, List.forall_mem_cons.mpr ⟨z_i5 154 (by decide +kernel) rfl, List.forall_mem_cons.mpr ⟨z_i5 156 (by decide +kernel) rfl, List.forall_mem_cons.mpr ⟨z_i5 158 (by decide +kernel) rfl, List.forall_mem_cons.mpr ⟨z_i5 160 (by decide +kernel) rfl, List.forall_mem_cons.mpr ⟨z_i5 162 (by decide +kernel) rfl, List.forall_mem_cons.mpr ⟨z_i5 164 (by decide +kernel) rfl, List.forall_mem_cons.mpr ⟨z_i5 166 (by decide +kernel) rfl, List.forall_mem_cons.mpr ⟨z_i5 168 (by decide +kernel) rfl, List.forall_mem_cons.mpr ⟨z_i5 170 (by decide +kernel) rfl, List.forall_mem_cons.mpr ⟨z_i5 172 (by decide +kernel) rfl, List.forall_mem_cons.mpr ⟨z_i5 174 (by decide +kernel) rfl, List.forall_mem_cons.mpr ⟨z_i5 176 (by decide +kernel) rfl, List.forall_mem_cons.mpr ⟨z_i5 178 (by decide +kernel) rfl, List.forall_mem_cons.mpr ⟨z_i5 180 (by decide +kernel) rfl, List.forall_mem_cons.mpr ⟨z_i5 182 (by decide +kernel) rfl, List.forall_mem_cons.mpr ⟨z_i5 184 (by decide +kernel) rfl, List.forall_mem_cons.mpr ⟨z_i5 186 (by decide +kernel) rfl, List.forall_mem_cons.mpr ⟨z_i5 188 (by decide +kernel) rfl, List.forall_mem_cons.mpr ⟨z_i5 190 (by decide +kernel) rfl, List.forall_mem_cons.mpr ⟨z_i5 192 (by decide +kernel) rfl, List.forall_mem_cons.mpr ⟨z_i5 194 (by decide +kernel) rfl, List.forall_mem_cons.mpr ⟨z_i5 196 (by decide +kernel) rfl, List.forall_mem_cons.mpr ⟨z_i5 198 (by decide +kernel) rfl, List.forall_mem_cons.mpr ⟨z_i5 200 (by decide +kernel) rfl, List.forall_mem_cons.mpr ⟨z_i5 202 (by decide +kernel) rfl, List.forall_mem_cons.mpr ⟨z_i5 204 (by decide +kernel) rfl, List.forall_mem_cons.mpr ⟨z_i5 206 (by decide +kernel) rfl, List.forall_mem_cons.mpr ⟨z_i5 208 (by decide +kernel) rfl, List.forall_mem_cons.mpr ⟨z_i5 210 (by decide +kernel) rfl, List.forall_mem_cons.mpr ⟨z_i5 212 (by decide +kernel) rfl, fun _ h => absurd h List.not_mem_nil⟩⟩⟩⟩⟩⟩⟩⟩⟩⟩⟩⟩⟩⟩⟩⟩⟩⟩⟩⟩⟩⟩⟩⟩⟩⟩⟩⟩⟩⟩⟩⟩⟩⟩⟩⟩⟩⟩⟩⟩⟩⟩⟩⟩⟩⟩⟩⟩⟩⟩⟩⟩⟩⟩⟩⟩⟩
def zshL : List (Nat × Nat) := [(11, 12), (9, 6), (24, 12), (20, 10), (20, 10), (20, 10), (20, 10), (20, 10), (20, 10), (20, 10), (20, 10), (20, 10), (20, 10), (20, 10), (20, 10), (20, 5), (4, 9), (20, 12), (20, 12), (2, 6), (20, 8), (20, 8), (3, 4), (20, 24), (7, 7), (20, 10), (20, 10), (20, 10), (20, 4), (10, 4), (20, 120), (1, 6), (20, 40), (20, 40), (20, 40), (20, 40), (5, 7), (20, 5), (0, 4), (20, 50), (20, 24), (25, 6), (8, 4), (21, 60), (8, 4), (21, 60), (8, 4), (21, 60), (8, 4), (21, 60), (8, 4), (21, 60), (8, 4), (21, 60), (6, 5), (20, 128), (20, 128), (20, 128), (20, 6), (6, 5), (20, 128), (20, 128), (20, 128), (20, 6), (12, 57), (20, 10), (20, 10), (20, 10), (20, 10), (20, 10), (20, 10), (20, 4), (20, 4), (20, 6), (20, 3), (20, 40), (20, 40), (20, 40), (20, 40), (22, 120), (22, 260), (20, 260), (20, 2), (23, 122), (23, 122), (20, 6), (20, 130), (20, 10), (20, 10), (20, 10), (20, 4), (20, 4), (20, 5), (20, 5), (20, 50), (20, 24), (20, 6), (20, 6), (21, 360), (21, 60)]
def zstL : List (List Int32) := [[0, 1, 0, 0, 0, 0, 0, 1, 1, 0, 0, -2147483648], [47, 9, 9, 9, 1, 1, 9, 9, 1023, 999, 999, 2147483647], [-1, 0, 0, 2, 1, 3, 0, 6], [1, 10, 11, 2, 20, 0, 0, 0, 0, 30, 0, 0, 0, 41, 40, 0, 0, 0, 0, 50, 0, 0, 60, 61, 70, 0, 0, 0, 81, 80, 0, 0]]
/-! THE WORLD AS NUMBERS: cells 0, 1, .. in the order in which they are made; ints, longs, references (by number), how many are made -/
abbrev zW : Type := (Nat → Nat → Int32) × (Nat → Nat → Int64) × (Nat → Nat → Option Nat) × Nat
abbrev zG : Type := Nat × Heap × (Nat → ClassId) × (Nat → Nat → Nat) × (Nat → ClassId) × (Nat → Nat) × (Nat → Int32) × Nat
abbrev zgB (g : zG) : Nat := g.1
abbrev zgH (g : zG) : Heap := g.2.1
abbrev zgC (g : zG) : Nat → ClassId := g.2.2.1
abbrev zgI (g : zG) : Nat → Nat → Nat := g.2.2.2.1
abbrev zgA (g : zG) : Nat → ClassId := g.2.2.2.2.1
abbrev zgS (g : zG) : Nat → Nat := g.2.2.2.2.2.1
abbrev zgX (g : zG) : Nat → Int32 := g.2.2.2.2.2.2.1
abbrev zgL (g : zG) : Nat := g.2.2.2.2.2.2.2
def zad (g : zG) (a : Nat) : Nat := if a < 1000 then zgB g + a else zgS g (a - 1000)
def zrv (g : zG) : Value → Value
  | .ref a => .ref (zad g a)
  | .null => .null
  | .int x => .int x
  | .long x => .long x
  | v => v
theorem zrv_cat (g : zG) (v : Value) : (zrv g v).category = v.category := by cases v <;> rfl
abbrev zcl : List vw_C := [(RX0, TX0, 4), (RX1, TX1, 6), (RX2, TX2, 6), (RX3, TX3, 4), (RX4, TX4, 9), (RX5, TX5, 7), (RX6, TX6, 5), (RX7, TX7, 7), (RX8, TX8, 4), (RX9, TX9, 6), (RX10, TX10, 4), (RX11, TX11, 12), (RX12, TX12, 57)]
def zcR (k : Nat) : String := match k with
  | 0 => RX0 | 1 => RX1 | 2 => RX2 | 3 => RX3 | 4 => RX4 | 5 => RX5 | 6 => RX6 | 7 => RX7 | 8 => RX8 | 9 => RX9 | 10 => RX10 | 11 => RX11 | _ => RX12
def zcT (k : Nat) : u_T := match k with
  | 0 => TX0 | 1 => TX1 | 2 => TX2 | 3 => TX3 | 4 => TX4 | 5 => TX5 | 6 => TX6 | 7 => TX7 | 8 => TX8 | 9 => TX9 | 10 => TX10 | 11 => TX11 | _ => TX12
def zcY (k : Nat) : Nat → FieldType := match k with
  | 0 => tyX0 | 1 => tyX1 | 2 => tyX2 | 3 => tyX3 | 4 => tyX4 | 5 => tyX5 | 6 => tyX6 | 7 => tyX7 | 8 => tyX8 | 9 => tyX9 | 10 => tyX10 | 11 => tyX11 | _ => tyX12
def zcN (k : Nat) : Nat := match k with
  | 0 => 4 | 1 => 6 | 2 => 6 | 3 => 4 | 4 => 9 | 5 => 7 | 6 => 5 | 7 => 7 | 8 => 4 | 9 => 6 | 10 => 4 | 11 => 12 | _ => 57
theorem zk13 {P : Nat → Prop} (h0 : P 0) (h1 : P 1) (h2 : P 2) (h3 : P 3) (h4 : P 4) (h5 : P 5) (h6 : P 6) (h7 : P 7) (h8 : P 8) (h9 : P 9) (h10 : P 10) (h11 : P 11) (h12 : P 12) {k : Nat} (hk : k < 13) : P k := by
  match k, hk with
  | 0, _ => exact h0
  | 1, _ => exact h1
  | 2, _ => exact h2
  | 3, _ => exact h3
  | 4, _ => exact h4
  | 5, _ => exact h5
  | 6, _ => exact h6
  | 7, _ => exact h7
  | 8, _ => exact h8
  | 9, _ => exact h9
  | 10, _ => exact h10
  | 11, _ => exact h11
  | 12, _ => exact h12
theorem zc_at {k : Nat} (hk : k < 13) : zcl[k]? = some (zcR k, zcT k, zcN k) := zk13 (P := fun k => zcl[k]? = some (zcR k, zcT k, zcN k)) rfl rfl rfl rfl rfl rfl rfl rfl rfl rfl rfl rfl rfl hk
theorem zc_ty {k : Nat} (hk : k < 13) : ∀ j, j < zcN k → parseFieldDescriptor (zcT k j).2.2.1 = some (zcY k j) := zk13 (P := fun k => ∀ j, j < zcN k → parseFieldDescriptor (zcT k j).2.2.1 = some (zcY k j)) tyX0_ok tyX1_ok tyX2_ok tyX3_ok tyX4_ok tyX5_ok tyX6_ok tyX7_ok tyX8_ok tyX9_ok tyX10_ok tyX11_ok tyX12_ok hk
theorem zc_nm {k : Nat} (hk : k < 13) : ∀ a, a < zcN k → ∀ b, b < zcN k → a ≠ b → (zcT k a).2.1 ≠ (zcT k b).2.1 := zk13 (P := fun k => ∀ a, a < zcN k → ∀ b, b < zcN k → a ≠ b → (zcT k a).2.1 ≠ (zcT k b).2.1) nmX0 nmX1 nmX2 nmX3 nmX4 nmX5 nmX6 nmX7 nmX8 nmX9 nmX10 nmX11 nmX12 hk
theorem zc_in {k : Nat} (hk : k < 13) : ∀ w ∈ u_ws (zcR k) (zcT k) (zcN k), w ∈ zWT := zk13 (P := fun k => ∀ w ∈ u_ws (zcR k) (zcT k) (zcN k), w ∈ zWT) inX0 inX1 inX2 inX3 inX4 inX5 inX6 inX7 inX8 inX9 inX10 inX11 inX12 hk
theorem zc_own {k : Nat} (hk : k < 13) : ∀ j, j < zcN k → (zcT k j).1 = zcR k := zk13 (P := fun k => ∀ j, j < zcN k → (zcT k j).1 = zcR k) (by decide +kernel) (by decide +kernel) (by decide +kernel) (by decide +kernel) (by decide +kernel) (by decide +kernel) (by decide +kernel) (by decide +kernel) (by decide +kernel) (by decide +kernel) (by decide +kernel) (by decide +kernel) (by decide +kernel) hk
def zsh (a : Nat) : Nat × Nat := if a < 1000 then zshL.getD a (99, 0) else (99, 0)
def zS : Nat → Nat
  | 0 => 0
  | n + 1 => zS n + (zsh n).2
theorem zS_le {a b : Nat} (h : a ≤ b) : zS a ≤ zS b := by
  induction h with
  | refl => exact Nat.le_refl _
  | step _ ih => exact Nat.le_trans ih (Nat.le_add_right _ _)
def zrf (kd k : Nat) : Bool := match zcY kd k with
  | .object _ => true
  | .array _ => true
  | _ => false
def zfv (g : zG) (i : Nat → Int32) (r : Nat → Option Nat) (kd k : Nat) : Value := if zrf kd k = true then va_rf ((r k).map (zad g)) else .int (i k)
def zel (g : zG) (i : Nat → Int32) (l : Nat → Int64) (r : Nat → Option Nat) (kd k : Nat) : Value := if kd = 21 then .long (l k) else if kd < 24 then .int (i k) else va_rf ((r k).map (zad g))
def zcell (g : zG) (i : Nat → Int32) (l : Nat → Int64) (r : Nat → Option Nat) (a : Nat) (H : Heap) : Prop :=
  if (zsh a).1 < 13 then t_OB (zgB g + a) (zgC g (zsh a).1) (zcN (zsh a).1) (zgI g (zsh a).1) H (zfv g i r (zsh a).1)
  else H[zgB g + a]? = some (arrV (zgA g (zsh a).1) (zsh a).2 (zel g i l r (zsh a).1))
theorem zcell_o {g : zG} {i : Nat → Int32} {l : Nat → Int64} {r : Nat → Option Nat} {a kd len : Nat} {H : Heap} (h : zcell g i l r a H) (hs : zsh a = (kd, len)) (hk : kd < 13) : t_OB (zgB g + a) (zgC g kd) (zcN kd) (zgI g kd) H (zfv g i r kd) := by
  unfold zcell at h
  rw [hs] at h
  rwa [if_pos hk] at h
theorem zcell_a {g : zG} {i : Nat → Int32} {l : Nat → Int64} {r : Nat → Option Nat} {a kd len : Nat} {H : Heap} (h : zcell g i l r a H) (hs : zsh a = (kd, len)) (hk : ¬ kd < 13) : H[zgB g + a]? = some (arrV (zgA g kd) len (zel g i l r kd)) := by
  unfold zcell at h
  rw [hs] at h
  rwa [if_neg hk] at h
theorem zcell_oi {g : zG} {i : Nat → Int32} {l : Nat → Int64} {r : Nat → Option Nat} {a kd len : Nat} {H : Heap} (hs : zsh a = (kd, len)) (hk : kd < 13) (h : t_OB (zgB g + a) (zgC g kd) (zcN kd) (zgI g kd) H (zfv g i r kd)) : zcell g i l r a H := by
  unfold zcell
  rw [hs]
  rwa [if_pos hk]
theorem zcell_ai {g : zG} {i : Nat → Int32} {l : Nat → Int64} {r : Nat → Option Nat} {a kd len : Nat} {H : Heap} (hs : zsh a = (kd, len)) (hk : ¬ kd < 13) (h : H[zgB g + a]? = some (arrV (zgA g kd) len (zel g i l r kd))) : zcell g i l r a H := by
  unfold zcell
  rw [hs]
  rwa [if_neg hk]
theorem zcell_kept {g : zG} {i : Nat → Int32} {l : Nat → Int64} {r : Nat → Option Nat} {a : Nat} {H H1 : Heap} (h : zcell g i l r a H) (hq : H1[zgB g + a]? = H[zgB g + a]?) : zcell g i l r a H1 := by
  unfold zcell at h ⊢
  split
  next hk => rw [if_pos hk] at h; exact h.kept hq
  next hk => rw [if_neg hk] at h; rw [hq]; exact h
def zRep (g : zG) (w : zW) (H : Heap) : Prop := H.size = zgB g + w.2.2.2 ∧ (∀ a : Nat, a < w.2.2.2 → zcell g (w.1 a) (w.2.1 a) (w.2.2.1 a) a H) ∧ ∀ q : Nat, q < zgB g → H[q]? = (zgH g)[q]?
theorem zRep_set {g : zG} {w w' : zW} {a : Nat} {H H1 : Heap} (h : zRep g w H) (ha : a < w.2.2.2) (hn : w'.2.2.2 = w.2.2.2) (z : H1.size = H.size) (oq : ∀ q : Nat, q ≠ zgB g + a → H1[q]? = H[q]?)
    (hI : ∀ b, b ≠ a → w'.1 b = w.1 b) (hL : ∀ b, b ≠ a → w'.2.1 b = w.2.1 b) (hR : ∀ b, b ≠ a → w'.2.2.1 b = w.2.2.1 b) (hc : zcell g (w'.1 a) (w'.2.1 a) (w'.2.2.1 a) a H1) : zRep g w' H1 := by
  refine ⟨by rw [z, hn]; exact h.1, fun b hb => ?_, fun q hq => ?_⟩
  · by_cases e : b = a
    · subst e; exact hc
    · rw [hI b e, hL b e, hR b e]
      rw [hn] at hb
      exact zcell_kept (h.2.1 b hb) (oq _ (by omega))
  · rw [oq q (by omega)]
    exact h.2.2 q hq
/-- f, but x at k -/
def zup {α : Type} (f : Nat → α) (k : Nat) (x : α) : Nat → α := fun j => if j = k then x else f j
theorem zup_eq {α : Type} {f : Nat → α} {k : Nat} {x : α} : zup f k x k = x := if_pos rfl
theorem zup_ne {α : Type} {f : Nat → α} {k j : Nat} {x : α} (h : j ≠ k) : zup f k x j = f j := if_neg h
/-- what a state's tables say, wherever the law has come -/
def ztys (g : zG) : List (ClassId × FieldType) := [(zgA g 20, .int), (zgA g 21, .long), (zgA g 22, .byte), (zgA g 23, .short), (zgA g 24, .array .int), (zgA g 25, .object RX8)]
def zstv (j k : Nat) : Int32 := (zstL.getD j []).getD k 0
def zTT (g : zG) (U : State) : Prop :=
  (va_Z RX9 "LEAST" "[I" (.ref (zgS g 0)) (fun q => zgB g ≤ q) U (zgH g) ∧ va_Z RX9 "MOST" "[I" (.ref (zgS g 1)) (fun q => zgB g ≤ q) U (zgH g) ∧ va_Z RX0 "ABOVE" "[I" (.ref (zgS g 2)) (fun q => zgB g ≤ q) U (zgH g) ∧ va_Z RX0 "OWN" "[I" (.ref (zgS g 3)) (fun q => zgB g ≤ q) U (zgH g)) ∧
  (va_T .int (zgS g 0) 12 (fun k => .int (zstv 0 k)) (fun q => zgB g ≤ q) U (zgH g) ∧ va_T .int (zgS g 1) 12 (fun k => .int (zstv 1 k)) (fun q => zgB g ≤ q) U (zgH g) ∧ va_T .int (zgS g 2) 8 (fun k => .int (zstv 2 k)) (fun q => zgB g ≤ q) U (zgH g) ∧ va_T .int (zgS g 3) 32 (fun k => .int (zstv 3 k)) (fun q => zgB g ≤ q) U (zgH g)) ∧
  va_X (zgS g 4) (zgL g) (zgX g) U (zgH g) ∧ zgS g 4 < zgB g
theorem zTT_moved {g : zG} {u U : State} (hvm : u.vm.Alike U.vm) (h : zTT g u) : zTT g U := by
  obtain ⟨⟨a1, a2, a3, a4⟩, ⟨b1, b2, b3, b4⟩, c1, c2⟩ := h
  exact ⟨⟨a1.moved hvm, a2.moved hvm, a3.moved hvm, a4.moved hvm⟩, ⟨b1.moved hvm, b2.moved hvm, b3.moved hvm, b4.moved hvm⟩, c1.moved hvm, c2⟩
def zAOA (U : State) : Prop := (Cond.arrayOver (.array .int)).before #[] U = true
theorem zAOA_moved {u U : State} (hvm : u.vm.Alike U.vm) (h : zAOA u) : zAOA U := by
  obtain ⟨comp, c, k, h1, h2, h3, h4, h5⟩ := arrayOverA_spec h
  obtain ⟨k', hk', he⟩ := hvm.2.2 _ _ h3
  have hi : (U.vm.classes.findIdx? fun (x : Class) => match x.kind with | .array component _ => component == comp | _ => false) = some c := by
    rw [hvm.findIdx?_eq _ (fun _ => rfl)]
    exact h2
  have hkind : k'.kind = .array comp (.array .int) := by rw [he]; exact h4
  have f1 : U.vm.findClass (FieldType.array .int).toString = some comp := by rw [hvm.findClass]; exact h1
  have f2 : U.vm.findClass ("[" ++ (FieldType.array .int).toString) = some c := by rw [hvm.findClass]; exact h5
  unfold zAOA Cond.before Cond.holds
  simp only [Cond.value]
  rw [f1, Option.bind_some]
  refine (congrArg (fun o : Option Nat => (o.bind (fun c => (U.vm.classes[c]?).map fun (k : Class) => match k.kind with | .array _ ty => decide (ty = FieldType.array .int) && decide (U.vm.findClass ("[" ++ (FieldType.array .int).toString) = some c) | _ => false) == some true)) hi).trans ?_
  simp [hk', hkind, f2]
abbrev zNW : List (Nat × MethodName) := [(41, zmy m_X7_init), (48, zmy m_X10_init), (55, zmy m_X1_init), (62, zmy m_X5_init), (69, zmy m_X0_init), (80, zmy m_X8_init), (83, zmy m_X6_init)]
def zSt (g : zG) (U : State) : Prop := va_K (zgC g, zgI g) zcl (ztys g) U ∧ (∀ q ∈ zNW, va_Nw (.methodLinkNest RX11 q.1 q.2 RX11) U) ∧ va_AO RX8 U ∧ zAOA U ∧ zTT g U
theorem zSt_warm {g : zG} {s U : State} (hW : s.WarmedH U.vm) (h : zSt g s) : zSt g U :=
  ⟨h.1.moved hW.alike, fun q hq => va_Nw.warmM hW (h.2.1 q hq), h.2.2.1.moved hW.alike, zAOA_moved hW.alike h.2.2.2.1, zTT_moved hW.alike h.2.2.2.2⟩
end
section
theorem zGood {ws : List Cond} (h : ∀ w ∈ ws, w ∈ zWT) : GoodIn zWT ws := fun w hw => ⟨h w hw, good_of_word (List.mem_filter.mp (h w hw)).2⟩
theorem zSt_same {g : zG} {u U : State} (h : u.vm = U.vm) (hs : zSt g u) : zSt g U := by
  have hA : u.vm.Alike U.vm := h ▸ Vm.Alike.refl u.vm
  exact ⟨hs.1.moved hA, fun q hq => va_Nw.same rfl h (hs.2.1 q hq), hs.2.2.1.moved hA, zAOA_moved hA hs.2.2.2.1, zTT_moved hA hs.2.2.2.2⟩
def zCtx (g : zG) (d n0 n1 : Nat) (M : zM) (p : Program) (R : Room) (s : State) (m : MethodId) (args : Array Value) (meth : Method) (c : Code) : Prop :=
  p.tables.exec = Jvm.exec ∧ c.code = zmc M ∧ c.maxLocals = zmn M ∧ meth.sig.returnType = zmr M ∧ meth.locks = false ∧ meth.name = (zmy M).name ∧ s.vm.findClass (zmo M) = some m.cls ∧ (∀ x ∈ zWT, x.before args s = true) ∧ zSt g s ∧ (d ≤ R.frames ∧ 64 * d ≤ R.locals) ∧ n1 - n0 ≤ R.cells ∧ zS n1 - zS n0 ≤ R.slots
def zQc (g : zG) (n1 : Nat) (Q : Option Value → zW → Prop) : Array Value → State → Outcome → State → Prop := fun _ _ o t => ∃ (v : Option Value) (w : zW), o = .returned (v.map (zrv g)) ∧ w.2.2.2 = n1 ∧ Q v w ∧ zRep g w t.heap
def zlv (g : zG) (lv : List (Nat × Value)) : List (Nat × Value) := lv.map (fun q => (q.1, zrv g q.2))
/-- FROM HERE (a method's place, locals, stack, the world as numbers) THE METHOD COMES TO AN END WITH Q -/
def zAW (g : zG) (l : Launch) (d n0 n1 : Nat) (M : zM) (w : zW) (pc : Nat) (lv : List (Nat × Value)) (st : List Value) (Q : Option Value → zW → Prop) : Prop :=
  ∀ (p : Program) (e : Env) (R : Room) (s : State) (m : MethodId) (args : Array Value) (below : List Frame) (meth : Method) (c : Code) (H : Heap) (locs : List Loc) (ls : Array Slot),
    zCtx g d n0 n1 M p R s m args meth c → zRep g w H → (∀ q ∈ locs, zgB g ≤ q.base) → lv_has ls (zmn M) (zlv g lv) →
    W p l e R s m args below meth c H locs (w.2.2.2 - n0) (zS w.2.2.2 - zS n0) (MQ below (zQc g n1 Q) args s (n1 - n0) (zS n1 - zS n0) (fun q => zgB g ≤ q)) (F0 m pc ls (st.map (zrv g)))
/-- A METHOD'S CONTRACT, for one run of it -/
def zSp (g : zG) (l : Launch) (d n1 : Nat) (M : zM) (vals : List Value) (w : zW) (Q : Option Value → zW → Prop) : Prop :=
  Met l (zmy M) (.code (zmy M) (zmc M) (zmn M) (zmr M) :: zWT) ({ frames := d, cells := n1 - w.2.2.2, slots := zS n1 - zS w.2.2.2, locals := 64 * d }) (va_Pc (vals.map (zrv g)) (fun U => zRep g w U.heap ∧ zSt g U)) (zQc g n1 Q) (n1 - w.2.2.2) (zS n1 - zS w.2.2.2) (fun q => zgB g ≤ q)
def zlk : List (Nat × Value) → Nat → Option Value
  | [], _ => none
  | q :: r, i => cond (Nat.beq q.1 i) (some q.2) (zlk r i)
theorem zlk_mem {lv : List (Nat × Value)} {i : Nat} {v : Value} (h : zlk lv i = some v) : (i, v) ∈ lv := by
  induction lv with
  | nil => cases h
  | cons q r ih =>
    unfold zlk at h
    cases hb : Nat.beq q.1 i with
    | true =>
      rw [hb] at h
      have e : q.1 = i := Nat.eq_of_beq_eq_true hb
      cases h
      rw [← e]
      exact List.mem_cons_self
    | false =>
      rw [hb] at h
      exact List.mem_cons_of_mem _ (ih h)
theorem zlk_at {g : zG} {ls : Array Slot} {n : Nat} {lv : List (Nat × Value)} {i : Nat} {v : Value} (hl : lv_has ls n (zlv g lv)) (h : zlk lv i = some v) : ls[i]? = some (.val (zrv g v)) :=
  hl.2.2 (i, zrv g v) (List.mem_map.mpr ⟨(i, v), zlk_mem h, rfl⟩)
def zfl : List (Nat × Value) → Nat → List (Nat × Value)
  | [], _ => []
  | q :: r, i => cond (Nat.beq q.1 i) (zfl r i) (cond (Nat.beq (q.1 + 1) i && Nat.beq q.2.category 2) (zfl r i) (q :: zfl r i))
def zfl2 : List (Nat × Value) → Nat → List (Nat × Value)
  | [], _ => []
  | q :: r, i => cond (Nat.beq q.1 i) (zfl2 r i) (cond (Nat.beq q.1 (i + 1)) (zfl2 r i) (cond (Nat.beq (q.1 + 1) i && Nat.beq q.2.category 2) (zfl2 r i) (q :: zfl2 r i)))
theorem zbeq (a b : Nat) : (a == b) = Nat.beq a b := by
  cases h : Nat.beq a b with
  | true => rw [Nat.eq_of_beq_eq_true h]; simp
  | false => simp [Nat.ne_of_beq_eq_false h]
theorem zfl_eq (g : zG) (i : Nat) : ∀ lv : List (Nat × Value), (zlv g lv).filter (fun q => !(q.1 == i) && !(q.1 + 1 == i && q.2.category == 2)) = zlv g (zfl lv i)
  | [] => rfl
  | q :: r => by
    have ih := zfl_eq g i r
    unfold zlv at ih ⊢
    rw [List.map_cons, List.filter_cons, ih]
    simp only [zrv_cat, zbeq, zfl]
    cases Nat.beq q.1 i <;> cases (Nat.beq (q.1 + 1) i) <;> cases (Nat.beq q.2.category 2) <;> rfl
theorem zfl2_eq (g : zG) (i : Nat) : ∀ lv : List (Nat × Value), (zlv g lv).filter (fun q => !(q.1 == i) && (!(q.1 == i + 1) && !(q.1 + 1 == i && q.2.category == 2))) = zlv g (zfl2 lv i)
  | [] => rfl
  | q :: r => by
    have ih := zfl2_eq g i r
    unfold zlv at ih ⊢
    rw [List.map_cons, List.filter_cons, ih]
    simp only [zrv_cat, zbeq, zfl2]
    cases Nat.beq q.1 i <;> cases Nat.beq q.1 (i + 1) <;> cases (Nat.beq (q.1 + 1) i) <;> cases (Nat.beq q.2.category 2) <;> rfl
theorem zlv_args (g : zG) : ∀ (i : Nat) (vs : List Value), zlv g (lv_args i vs) = lv_args i (vs.map (zrv g))
  | _, [] => rfl
  | i, v :: vs => by
    show (i, zrv g v) :: zlv g (lv_args (if v.category = 2 then i + 2 else i + 1) vs) = (i, zrv g v) :: lv_args (if (zrv g v).category = 2 then i + 2 else i + 1) (vs.map (zrv g))
    rw [zrv_cat, zlv_args g _ vs]
theorem zslots (g : zG) (vs : List Value) : (lg_sl (vs.map (zrv g))).length = (lg_sl vs).length := by
  induction vs with
  | nil => rfl
  | cons v vs ih =>
    simp only [lg_sl, List.map_cons, List.flatMap_cons, List.length_append] at ih ⊢
    rw [ih]
    congr 1
    cases v <;> rfl
theorem zSp_of {g : zG} {l : Launch} {d n1 n : Nat} {M : zM} {vals : List Value} {lv : List (Nat × Value)} {w : zW} {Q : Option Value → zW → Prop} (hM : zMk M n) (hlv : lv_args 0 vals = lv) (hn : (lg_sl vals).length ≤ zmn M)
    (k : zAW g l d w.2.2.2 n1 M w 0 lv [] Q) : zSp g l d n1 M vals w Q := by
  subst hlv
  refine Met.ofW (cc := zmc M) (maxL := zmn M) (ret := zmr M) hM.2.2.1 rfl ?_
  intro p e s m args below meth c s₁ B hml hv
  obtain ⟨rfl, hR, hSt⟩ := hv
  have hts := atoms_spec (ws := .code (zmy M) (zmc M) (zmn M) (zmr M) :: zWT) B.pre
  have hl := lv_entry (vals.map (zrv g)) (n := zmn M) (by rw [zslots]; exact hn)
  rw [lg_entry_eq]
  generalize (lg_sl (vals.map (zrv g)) ++ List.replicate (zmn M - (lg_sl (vals.map (zrv g))).length) Slot.unset).toArray = ls at hl ⊢
  rw [← zlv_args] at hl
  have h := k p e ({ frames := d, cells := n1 - w.2.2.2, slots := zS n1 - zS w.2.2.2, locals := 64 * d } : Room) s m (vals.map (zrv g)).toArray below meth c s.heap [] ls ⟨B.exec, B.bytes, hml, B.returns, B.notSynchronized, (name_of_methodNamed B.named B.method).1, by rw [hM.2.2.2.2.2]; exact findClass_of_methodNamed B.named, fun x hx => hts x (List.mem_cons_of_mem _ hx), hSt, ⟨Nat.le_refl _, Nat.le_refl _⟩, Nat.le_refl _, Nat.le_refl _⟩ hR (fun q hq => by cases hq) hl
  rw [Nat.sub_self, Nat.sub_self] at h
  exact h

section ZR
variable {g : zG} {l : Launch} {d n0 n1 : Nat} {M : zM} {w : zW} {I : Nat → Nat → Int32} {L : Nat → Nat → Int64} {R : Nat → Nat → Option Nat} {n pc q : Nat} {lv : List (Nat × Value)} {st : List Value} {Q : Option Value → zW → Prop}
theorem zIconst {n : Int} {v : Int32} (hd : decode (zmc M) pc = .ok (.iconst n, 1)) (hv : Int32.ofInt n = v) (hq : q = pc + 1) (k : zAW g l d n0 n1 M w q lv (.int v :: st) Q) : zAW g l d n0 n1 M w pc lv (st) Q := by
  subst hq
  intro p e R s m args below meth c H locs ls C hR hL hl
  exact lv_iconst C.1 C.2.1 hd hv (k p e R s m args below meth c H locs ls C hR hL hl)
theorem zBipush {n : Int} {v : Int32} (hd : decode (zmc M) pc = .ok (.bipush n, 2)) (hv : (Int8.ofInt n).toInt32 = v) (hq : q = pc + 2) (k : zAW g l d n0 n1 M w q lv (.int v :: st) Q) : zAW g l d n0 n1 M w pc lv (st) Q := by
  subst hq
  intro p e R s m args below meth c H locs ls C hR hL hl
  exact lv_bipush C.1 C.2.1 hd hv (k p e R s m args below meth c H locs ls C hR hL hl)
theorem zSipush {n : Int} {v : Int32} (hd : decode (zmc M) pc = .ok (.sipush n, 3)) (hv : (Int16.ofInt n).toInt32 = v) (hq : q = pc + 3) (k : zAW g l d n0 n1 M w q lv (.int v :: st) Q) : zAW g l d n0 n1 M w pc lv (st) Q := by
  subst hq
  intro p e R s m args below meth c H locs ls C hR hL hl
  exact lv_sipush C.1 C.2.1 hd hv (k p e R s m args below meth c H locs ls C hR hL hl)
theorem zLconst {n : Fin 2} {v : Int64} (hd : decode (zmc M) pc = .ok (.lconst n, 1)) (hv : Int64.ofNat (n : Nat) = v) (hq : q = pc + 1) (k : zAW g l d n0 n1 M w q lv (.long v :: st) Q) : zAW g l d n0 n1 M w pc lv (st) Q := by
  subst hq
  intro p e R s m args below meth c H locs ls C hR hL hl
  exact lv_lconst C.1 C.2.1 hd hv (k p e R s m args below meth c H locs ls C hR hL hl)
theorem zNull  (hd : decode (zmc M) pc = .ok (.aconst_null, 1))  (hq : q = pc + 1) (k : zAW g l d n0 n1 M w q lv (.null :: st) Q) : zAW g l d n0 n1 M w pc lv (st) Q := by
  subst hq
  intro p e R s m args below meth c H locs ls C hR hL hl
  exact lv_null C.1 C.2.1 hd  (k p e R s m args below meth c H locs ls C hR hL hl)
theorem zIadd {x y : Int32} (hd : decode (zmc M) pc = .ok (.iadd, 1))  (hq : q = pc + 1) (k : zAW g l d n0 n1 M w q lv (.int (x + y) :: st) Q) : zAW g l d n0 n1 M w pc lv (.int y :: .int x :: st) Q := by
  subst hq
  intro p e R s m args below meth c H locs ls C hR hL hl
  exact lv_iadd C.1 C.2.1 hd  (k p e R s m args below meth c H locs ls C hR hL hl)
theorem zIsub {x y : Int32} (hd : decode (zmc M) pc = .ok (.isub, 1))  (hq : q = pc + 1) (k : zAW g l d n0 n1 M w q lv (.int (x - y) :: st) Q) : zAW g l d n0 n1 M w pc lv (.int y :: .int x :: st) Q := by
  subst hq
  intro p e R s m args below meth c H locs ls C hR hL hl
  exact lv_isub C.1 C.2.1 hd  (k p e R s m args below meth c H locs ls C hR hL hl)
theorem zImul {x y : Int32} (hd : decode (zmc M) pc = .ok (.imul, 1))  (hq : q = pc + 1) (k : zAW g l d n0 n1 M w q lv (.int (x * y) :: st) Q) : zAW g l d n0 n1 M w pc lv (.int y :: .int x :: st) Q := by
  subst hq
  intro p e R s m args below meth c H locs ls C hR hL hl
  exact lv_imul C.1 C.2.1 hd  (k p e R s m args below meth c H locs ls C hR hL hl)
theorem zIand {x y : Int32} (hd : decode (zmc M) pc = .ok (.iand, 1))  (hq : q = pc + 1) (k : zAW g l d n0 n1 M w q lv (.int (x &&& y) :: st) Q) : zAW g l d n0 n1 M w pc lv (.int y :: .int x :: st) Q := by
  subst hq
  intro p e R s m args below meth c H locs ls C hR hL hl
  exact lv_iand C.1 C.2.1 hd  (k p e R s m args below meth c H locs ls C hR hL hl)
theorem zIor {x y : Int32} (hd : decode (zmc M) pc = .ok (.ior, 1))  (hq : q = pc + 1) (k : zAW g l d n0 n1 M w q lv (.int (x ||| y) :: st) Q) : zAW g l d n0 n1 M w pc lv (.int y :: .int x :: st) Q := by
  subst hq
  intro p e R s m args below meth c H locs ls C hR hL hl
  exact lv_ior C.1 C.2.1 hd  (k p e R s m args below meth c H locs ls C hR hL hl)
theorem zIxor {x y : Int32} (hd : decode (zmc M) pc = .ok (.ixor, 1))  (hq : q = pc + 1) (k : zAW g l d n0 n1 M w q lv (.int (x ^^^ y) :: st) Q) : zAW g l d n0 n1 M w pc lv (.int y :: .int x :: st) Q := by
  subst hq
  intro p e R s m args below meth c H locs ls C hR hL hl
  exact lv_ixor C.1 C.2.1 hd  (k p e R s m args below meth c H locs ls C hR hL hl)
theorem zIshl {x y : Int32} (hd : decode (zmc M) pc = .ok (.ishl, 1))  (hq : q = pc + 1) (k : zAW g l d n0 n1 M w q lv (.int (x <<< (y &&& 31)) :: st) Q) : zAW g l d n0 n1 M w pc lv (.int y :: .int x :: st) Q := by
  subst hq
  intro p e R s m args below meth c H locs ls C hR hL hl
  exact lv_ishl C.1 C.2.1 hd  (k p e R s m args below meth c H locs ls C hR hL hl)
theorem zIshr {x y : Int32} (hd : decode (zmc M) pc = .ok (.ishr, 1))  (hq : q = pc + 1) (k : zAW g l d n0 n1 M w q lv (.int (x >>> (y &&& 31)) :: st) Q) : zAW g l d n0 n1 M w pc lv (.int y :: .int x :: st) Q := by
  subst hq
  intro p e R s m args below meth c H locs ls C hR hL hl
  exact lv_ishr C.1 C.2.1 hd  (k p e R s m args below meth c H locs ls C hR hL hl)
theorem zLadd {x y : Int64} (hd : decode (zmc M) pc = .ok (.ladd, 1))  (hq : q = pc + 1) (k : zAW g l d n0 n1 M w q lv (.long (x + y) :: st) Q) : zAW g l d n0 n1 M w pc lv (.long y :: .long x :: st) Q := by
  subst hq
  intro p e R s m args below meth c H locs ls C hR hL hl
  exact lv_ladd C.1 C.2.1 hd  (k p e R s m args below meth c H locs ls C hR hL hl)
theorem zLmul {x y : Int64} (hd : decode (zmc M) pc = .ok (.lmul, 1))  (hq : q = pc + 1) (k : zAW g l d n0 n1 M w q lv (.long (x * y) :: st) Q) : zAW g l d n0 n1 M w pc lv (.long y :: .long x :: st) Q := by
  subst hq
  intro p e R s m args below meth c H locs ls C hR hL hl
  exact lv_lmul C.1 C.2.1 hd  (k p e R s m args below meth c H locs ls C hR hL hl)
theorem zLand {x y : Int64} (hd : decode (zmc M) pc = .ok (.land, 1))  (hq : q = pc + 1) (k : zAW g l d n0 n1 M w q lv (.long (x &&& y) :: st) Q) : zAW g l d n0 n1 M w pc lv (.long y :: .long x :: st) Q := by
  subst hq
  intro p e R s m args below meth c H locs ls C hR hL hl
  exact lv_land C.1 C.2.1 hd  (k p e R s m args below meth c H locs ls C hR hL hl)
theorem zLor {x y : Int64} (hd : decode (zmc M) pc = .ok (.lor, 1))  (hq : q = pc + 1) (k : zAW g l d n0 n1 M w q lv (.long (x ||| y) :: st) Q) : zAW g l d n0 n1 M w pc lv (.long y :: .long x :: st) Q := by
  subst hq
  intro p e R s m args below meth c H locs ls C hR hL hl
  exact lv_lor C.1 C.2.1 hd  (k p e R s m args below meth c H locs ls C hR hL hl)
theorem zIneg {x : Int32} (hd : decode (zmc M) pc = .ok (.ineg, 1))  (hq : q = pc + 1) (k : zAW g l d n0 n1 M w q lv (.int (-x) :: st) Q) : zAW g l d n0 n1 M w pc lv (.int x :: st) Q := by
  subst hq
  intro p e R s m args below meth c H locs ls C hR hL hl
  exact lv_ineg C.1 C.2.1 hd  (k p e R s m args below meth c H locs ls C hR hL hl)
theorem zIdiv {x y : Int32} (hd : decode (zmc M) pc = .ok (.idiv, 1)) (hne : ¬ y = 0) (hq : q = pc + 1) (k : zAW g l d n0 n1 M w q lv (.int (x / y) :: st) Q) : zAW g l d n0 n1 M w pc lv (.int y :: .int x :: st) Q := by
  subst hq
  intro p e R s m args below meth c H locs ls C hR hL hl
  exact lv_idiv C.1 C.2.1 hd hne (k p e R s m args below meth c H locs ls C hR hL hl)
theorem zIrem {x y : Int32} (hd : decode (zmc M) pc = .ok (.irem, 1)) (hne : ¬ y = 0) (hq : q = pc + 1) (k : zAW g l d n0 n1 M w q lv (.int (x - x / y * y) :: st) Q) : zAW g l d n0 n1 M w pc lv (.int y :: .int x :: st) Q := by
  subst hq
  intro p e R s m args below meth c H locs ls C hR hL hl
  exact lv_irem C.1 C.2.1 hd hne (k p e R s m args below meth c H locs ls C hR hL hl)
theorem zLdiv {x y : Int64} (hd : decode (zmc M) pc = .ok (.ldiv, 1)) (hne : ¬ y = 0) (hq : q = pc + 1) (k : zAW g l d n0 n1 M w q lv (.long (x / y) :: st) Q) : zAW g l d n0 n1 M w pc lv (.long y :: .long x :: st) Q := by
  subst hq
  intro p e R s m args below meth c H locs ls C hR hL hl
  exact lv_ldiv C.1 C.2.1 hd hne (k p e R s m args below meth c H locs ls C hR hL hl)
theorem zLrem {x y : Int64} (hd : decode (zmc M) pc = .ok (.lrem, 1)) (hne : ¬ y = 0) (hq : q = pc + 1) (k : zAW g l d n0 n1 M w q lv (.long (x - x / y * y) :: st) Q) : zAW g l d n0 n1 M w pc lv (.long y :: .long x :: st) Q := by
  subst hq
  intro p e R s m args below meth c H locs ls C hR hL hl
  exact lv_lrem C.1 C.2.1 hd hne (k p e R s m args below meth c H locs ls C hR hL hl)
theorem zIushr {x y : Int32} (hd : decode (zmc M) pc = .ok (.iushr, 1))  (hq : q = pc + 1) (k : zAW g l d n0 n1 M w q lv (.int ((x.toUInt32 >>> (y.toUInt32 &&& Int32.toUInt32 31)).toInt32) :: st) Q) : zAW g l d n0 n1 M w pc lv (.int y :: .int x :: st) Q := by
  subst hq
  intro p e R s m args below meth c H locs ls C hR hL hl
  exact lv_iushr C.1 C.2.1 hd rfl (k p e R s m args below meth c H locs ls C hR hL hl)
theorem zLshl {x : Int64} {y : Int32} (hd : decode (zmc M) pc = .ok (.lshl, 1))  (hq : q = pc + 1) (k : zAW g l d n0 n1 M w q lv (.long (x <<< (y.toInt64 &&& 63)) :: st) Q) : zAW g l d n0 n1 M w pc lv (.int y :: .long x :: st) Q := by
  subst hq
  intro p e R s m args below meth c H locs ls C hR hL hl
  exact lv_lshl C.1 C.2.1 hd rfl (k p e R s m args below meth c H locs ls C hR hL hl)
theorem zI2l {x : Int32} (hd : decode (zmc M) pc = .ok (.i2l, 1))  (hq : q = pc + 1) (k : zAW g l d n0 n1 M w q lv (.long x.toInt64 :: st) Q) : zAW g l d n0 n1 M w pc lv (.int x :: st) Q := by
  subst hq
  intro p e R s m args below meth c H locs ls C hR hL hl
  exact lv_i2l C.1 C.2.1 hd rfl (k p e R s m args below meth c H locs ls C hR hL hl)
theorem zL2i {x : Int64} (hd : decode (zmc M) pc = .ok (.l2i, 1))  (hq : q = pc + 1) (k : zAW g l d n0 n1 M w q lv (.int x.toInt32 :: st) Q) : zAW g l d n0 n1 M w pc lv (.long x :: st) Q := by
  subst hq
  intro p e R s m args below meth c H locs ls C hR hL hl
  exact lv_l2i C.1 C.2.1 hd rfl (k p e R s m args below meth c H locs ls C hR hL hl)
theorem zI2b {x : Int32} (hd : decode (zmc M) pc = .ok (.i2b, 1))  (hq : q = pc + 1) (k : zAW g l d n0 n1 M w q lv (.int x.toInt8.toInt32 :: st) Q) : zAW g l d n0 n1 M w pc lv (.int x :: st) Q := by
  subst hq
  intro p e R s m args below meth c H locs ls C hR hL hl
  exact lv_i2b C.1 C.2.1 hd rfl (k p e R s m args below meth c H locs ls C hR hL hl)
theorem zI2s {x : Int32} (hd : decode (zmc M) pc = .ok (.i2s, 1))  (hq : q = pc + 1) (k : zAW g l d n0 n1 M w q lv (.int x.toInt16.toInt32 :: st) Q) : zAW g l d n0 n1 M w pc lv (.int x :: st) Q := by
  subst hq
  intro p e R s m args below meth c H locs ls C hR hL hl
  exact lv_i2s C.1 C.2.1 hd rfl (k p e R s m args below meth c H locs ls C hR hL hl)
theorem zLcmp {x y : Int64} (hd : decode (zmc M) pc = .ok (.lcmp, 1))  (hq : q = pc + 1) (k : zAW g l d n0 n1 M w q lv (.int (lg_cmp x y) :: st) Q) : zAW g l d n0 n1 M w pc lv (.long y :: .long x :: st) Q := by
  subst hq
  intro p e R s m args below meth c H locs ls C hR hL hl
  exact W.lcmp C.1 C.2.1 hd  (k p e R s m args below meth c H locs ls C hR hL hl)
theorem zDup {v : Value} (hd : decode (zmc M) pc = .ok (.dup, 1)) (hc : v.category = 1) (hq : q = pc + 1) (k : zAW g l d n0 n1 M w q lv (v :: v :: st) Q) : zAW g l d n0 n1 M w pc lv (v :: st) Q := by
  subst hq
  intro p e R s m args below meth c H locs ls C hR hL hl
  exact lv_dup C.1 C.2.1 hd (by rw [zrv_cat]; exact hc) (k p e R s m args below meth c H locs ls C hR hL hl)
theorem zPop {v : Value} (hd : decode (zmc M) pc = .ok (.pop, 1)) (hc : v.category = 1) (hq : q = pc + 1) (k : zAW g l d n0 n1 M w q lv st Q) : zAW g l d n0 n1 M w pc lv (v :: st) Q := by
  subst hq
  intro p e R s m args below meth c H locs ls C hR hL hl
  exact lv_pop C.1 C.2.1 hd (by rw [zrv_cat]; exact hc) (k p e R s m args below meth c H locs ls C hR hL hl)
theorem zDupx1 {va vb : Value} (hd : decode (zmc M) pc = .ok (.dup_x1, 1)) (hva : va.category = 1) (hvb : vb.category = 1) (hq : q = pc + 1) (k : zAW g l d n0 n1 M w q lv (va :: vb :: va :: st) Q) : zAW g l d n0 n1 M w pc lv (va :: vb :: st) Q := by
  subst hq
  intro p e R s m args below meth c H locs ls C hR hL hl
  exact lv_dup_x1 C.1 C.2.1 hd (by rw [zrv_cat]; exact hva) (by rw [zrv_cat]; exact hvb) (k p e R s m args below meth c H locs ls C hR hL hl)
theorem zDup2 {va vb : Value} (hd : decode (zmc M) pc = .ok (.dup2, 1)) (hva : va.category = 1) (hvb : vb.category = 1) (hq : q = pc + 1) (k : zAW g l d n0 n1 M w q lv (va :: vb :: va :: vb :: st) Q) : zAW g l d n0 n1 M w pc lv (va :: vb :: st) Q := by
  subst hq
  intro p e R s m args below meth c H locs ls C hR hL hl
  exact lv_dup2_11 C.1 C.2.1 hd (by rw [zrv_cat]; exact hva) (by rw [zrv_cat]; exact hvb) (k p e R s m args below meth c H locs ls C hR hL hl)
theorem zLdc {idx : Nat} {v : Int32} (hd : decode (zmc M) pc = .ok (.ldc idx, 2)) (hc : Cond.constant (zmo M) idx v ∈ zWT) (hq : q = pc + 2) (k : zAW g l d n0 n1 M w q lv (.int v :: st) Q) : zAW g l d n0 n1 M w pc lv st Q := by
  subst hq
  intro p e R s m args below meth c H locs ls C hR hL hl
  exact lv_ldc C.1 C.2.1 C.2.2.2.2.2.2.1 (C.2.2.2.2.2.2.2.1 _ hc) hd (k p e R s m args below meth c H locs ls C hR hL hl)
theorem zLdcw {idx : Nat} {v : Int32} (hd : decode (zmc M) pc = .ok (.ldc_w idx, 3)) (hc : Cond.constant (zmo M) idx v ∈ zWT) (hq : q = pc + 3) (k : zAW g l d n0 n1 M w q lv (.int v :: st) Q) : zAW g l d n0 n1 M w pc lv st Q := by
  subst hq
  intro p e R s m args below meth c H locs ls C hR hL hl
  exact lv_ldcw C.1 C.2.1 C.2.2.2.2.2.2.1 (C.2.2.2.2.2.2.2.1 _ hc) hd (k p e R s m args below meth c H locs ls C hR hL hl)
theorem zLdc2 {idx : Nat} {v : Int64} (hd : decode (zmc M) pc = .ok (.ldc2_w idx, 3)) (hc : Cond.constantLong (zmo M) idx v ∈ zWT) (hq : q = pc + 3) (k : zAW g l d n0 n1 M w q lv (.long v :: st) Q) : zAW g l d n0 n1 M w pc lv st Q := by
  subst hq
  intro p e R s m args below meth c H locs ls C hR hL hl
  exact lv_ldc2 C.1 C.2.1 C.2.2.2.2.2.2.1 (C.2.2.2.2.2.2.2.1 _ hc) hd (k p e R s m args below meth c H locs ls C hR hL hl)
theorem zIloadN {kf : Fin 4} {i : Nat} {x : Int32} (hd : decode (zmc M) pc = .ok (.iload_n kf, 1)) (hi : (kf : Nat) = i) (hx : zlk lv i = some (.int x)) (hq : q = pc + 1) (k : zAW g l d n0 n1 M w q lv (.int x :: st) Q) : zAW g l d n0 n1 M w pc lv st Q := by
  subst hq
  intro p e R s m args below meth c H locs ls C hR hL hl
  exact lv_iload_n C.1 C.2.1 hd hi (zlk_at hl hx) (k p e R s m args below meth c H locs ls C hR hL hl)
theorem zIload {i : Nat} {x : Int32} (hd : decode (zmc M) pc = .ok (.iload i, 2)) (hx : zlk lv i = some (.int x)) (hq : q = pc + 2) (k : zAW g l d n0 n1 M w q lv (.int x :: st) Q) : zAW g l d n0 n1 M w pc lv st Q := by
  subst hq
  intro p e R s m args below meth c H locs ls C hR hL hl
  exact lv_iload C.1 C.2.1 hd (zlk_at hl hx) (k p e R s m args below meth c H locs ls C hR hL hl)
theorem zLloadN {kf : Fin 4} {i : Nat} {x : Int64} (hd : decode (zmc M) pc = .ok (.lload_n kf, 1)) (hi : (kf : Nat) = i) (hx : zlk lv i = some (.long x)) (hq : q = pc + 1) (k : zAW g l d n0 n1 M w q lv (.long x :: st) Q) : zAW g l d n0 n1 M w pc lv st Q := by
  subst hq
  intro p e R s m args below meth c H locs ls C hR hL hl
  exact lv_lload_n C.1 C.2.1 hd hi (zlk_at hl hx) (k p e R s m args below meth c H locs ls C hR hL hl)
theorem zLload {i : Nat} {x : Int64} (hd : decode (zmc M) pc = .ok (.lload i, 2)) (hx : zlk lv i = some (.long x)) (hq : q = pc + 2) (k : zAW g l d n0 n1 M w q lv (.long x :: st) Q) : zAW g l d n0 n1 M w pc lv st Q := by
  subst hq
  intro p e R s m args below meth c H locs ls C hR hL hl
  exact lv_lload C.1 C.2.1 hd (zlk_at hl hx) (k p e R s m args below meth c H locs ls C hR hL hl)
theorem zAloadN {kf : Fin 4} {i : Nat} {x : Nat} (hd : decode (zmc M) pc = .ok (.aload_n kf, 1)) (hi : (kf : Nat) = i) (hx : zlk lv i = some (.ref x)) (hq : q = pc + 1) (k : zAW g l d n0 n1 M w q lv (.ref x :: st) Q) : zAW g l d n0 n1 M w pc lv st Q := by
  subst hq
  intro p e R s m args below meth c H locs ls C hR hL hl
  exact lv_aload_n C.1 C.2.1 hd hi (zlk_at hl hx) (k p e R s m args below meth c H locs ls C hR hL hl)
theorem zAload {i : Nat} {x : Nat} (hd : decode (zmc M) pc = .ok (.aload i, 2)) (hx : zlk lv i = some (.ref x)) (hq : q = pc + 2) (k : zAW g l d n0 n1 M w q lv (.ref x :: st) Q) : zAW g l d n0 n1 M w pc lv st Q := by
  subst hq
  intro p e R s m args below meth c H locs ls C hR hL hl
  exact lv_aload C.1 C.2.1 hd (zlk_at hl hx) (k p e R s m args below meth c H locs ls C hR hL hl)
theorem zAloadNN {kf : Fin 4} {i : Nat} (hd : decode (zmc M) pc = .ok (.aload_n kf, 1)) (hi : (kf : Nat) = i) (hx : zlk lv i = some .null) (hq : q = pc + 1) (k : zAW g l d n0 n1 M w q lv (.null :: st) Q) : zAW g l d n0 n1 M w pc lv st Q := by
  subst hq
  intro p e R s m args below meth c H locs ls C hR hL hl
  exact lv_aload_nN C.1 C.2.1 hd hi (zlk_at hl hx) (k p e R s m args below meth c H locs ls C hR hL hl)
theorem zAload0 {i : Nat} (hd : decode (zmc M) pc = .ok (.aload i, 2)) (hx : zlk lv i = some .null) (hq : q = pc + 2) (k : zAW g l d n0 n1 M w q lv (.null :: st) Q) : zAW g l d n0 n1 M w pc lv st Q := by
  subst hq
  intro p e R s m args below meth c H locs ls C hR hL hl
  exact lv_aloadN C.1 C.2.1 hd (zlk_at hl hx) (k p e R s m args below meth c H locs ls C hR hL hl)
theorem zIstoreN {kf : Fin 4} {i : Nat} {x : Int32} {lv' : List (Nat × Value)} (hd : decode (zmc M) pc = .ok (.istore_n kf, 1)) (hi : (kf : Nat) = i) (hn : i < zmn M) (hv : (i, .int x) :: zfl lv i = lv') (hq : q = pc + 1) (k : zAW g l d n0 n1 M w q lv' st Q) : zAW g l d n0 n1 M w pc lv (.int x :: st) Q := by
  subst hq
  intro p e R s m args below meth c H locs ls C hR hL hl
  exact lv_istore_n C.1 C.2.1 hd hi hl hn (by rw [zfl_eq, ← hv]; rfl) (fun ls hl => k p e R s m args below meth c H locs ls C hR hL hl)
theorem zIstore {i : Nat} {x : Int32} {lv' : List (Nat × Value)} (hd : decode (zmc M) pc = .ok (.istore i, 2)) (hn : i < zmn M) (hv : (i, .int x) :: zfl lv i = lv') (hq : q = pc + 2) (k : zAW g l d n0 n1 M w q lv' st Q) : zAW g l d n0 n1 M w pc lv (.int x :: st) Q := by
  subst hq
  intro p e R s m args below meth c H locs ls C hR hL hl
  exact lv_istore C.1 C.2.1 hd hl hn (by rw [zfl_eq, ← hv]; rfl) (fun ls hl => k p e R s m args below meth c H locs ls C hR hL hl)
theorem zAstoreN {kf : Fin 4} {i : Nat} {x : Nat} {lv' : List (Nat × Value)} (hd : decode (zmc M) pc = .ok (.astore_n kf, 1)) (hi : (kf : Nat) = i) (hn : i < zmn M) (hv : (i, .ref x) :: zfl lv i = lv') (hq : q = pc + 1) (k : zAW g l d n0 n1 M w q lv' st Q) : zAW g l d n0 n1 M w pc lv (.ref x :: st) Q := by
  subst hq
  intro p e R s m args below meth c H locs ls C hR hL hl
  exact lv_astore_n C.1 C.2.1 hd hi hl hn (by rw [zfl_eq, ← hv]; rfl) (fun ls hl => k p e R s m args below meth c H locs ls C hR hL hl)
theorem zAstore {i : Nat} {x : Nat} {lv' : List (Nat × Value)} (hd : decode (zmc M) pc = .ok (.astore i, 2)) (hn : i < zmn M) (hv : (i, .ref x) :: zfl lv i = lv') (hq : q = pc + 2) (k : zAW g l d n0 n1 M w q lv' st Q) : zAW g l d n0 n1 M w pc lv (.ref x :: st) Q := by
  subst hq
  intro p e R s m args below meth c H locs ls C hR hL hl
  exact lv_astore C.1 C.2.1 hd hl hn (by rw [zfl_eq, ← hv]; rfl) (fun ls hl => k p e R s m args below meth c H locs ls C hR hL hl)
theorem zAstoreNN {kf : Fin 4} {i : Nat} {lv' : List (Nat × Value)} (hd : decode (zmc M) pc = .ok (.astore_n kf, 1)) (hi : (kf : Nat) = i) (hn : i < zmn M) (hv : (i, Value.null) :: zfl lv i = lv') (hq : q = pc + 1) (k : zAW g l d n0 n1 M w q lv' st Q) : zAW g l d n0 n1 M w pc lv (.null :: st) Q := by
  subst hq
  intro p e R s m args below meth c H locs ls C hR hL hl
  exact lv_astore_nN C.1 C.2.1 hd hi hl hn (by rw [zfl_eq, ← hv]; rfl) (fun ls hl => k p e R s m args below meth c H locs ls C hR hL hl)
theorem zAstore0 {i : Nat} {lv' : List (Nat × Value)} (hd : decode (zmc M) pc = .ok (.astore i, 2)) (hn : i < zmn M) (hv : (i, Value.null) :: zfl lv i = lv') (hq : q = pc + 2) (k : zAW g l d n0 n1 M w q lv' st Q) : zAW g l d n0 n1 M w pc lv (.null :: st) Q := by
  subst hq
  intro p e R s m args below meth c H locs ls C hR hL hl
  exact lv_astoreN C.1 C.2.1 hd hl hn (by rw [zfl_eq, ← hv]; rfl) (fun ls hl => k p e R s m args below meth c H locs ls C hR hL hl)
theorem zLstoreN {kf : Fin 4} {i : Nat} {x : Int64} {lv' : List (Nat × Value)} (hd : decode (zmc M) pc = .ok (.lstore_n kf, 1)) (hi : (kf : Nat) = i) (hn : i + 1 < zmn M) (hv : (i, Value.long x) :: zfl2 lv i = lv') (hq : q = pc + 1) (k : zAW g l d n0 n1 M w q lv' st Q) : zAW g l d n0 n1 M w pc lv (.long x :: st) Q := by
  subst hq
  intro p e R s m args below meth c H locs ls C hR hL hl
  exact lv_lstore_n C.1 C.2.1 hd hi hl hn (by rw [zfl2_eq, ← hv]; rfl) (fun ls hl => k p e R s m args below meth c H locs ls C hR hL hl)
theorem zLstore {i : Nat} {x : Int64} {lv' : List (Nat × Value)} (hd : decode (zmc M) pc = .ok (.lstore i, 2)) (hn : i + 1 < zmn M) (hv : (i, Value.long x) :: zfl2 lv i = lv') (hq : q = pc + 2) (k : zAW g l d n0 n1 M w q lv' st Q) : zAW g l d n0 n1 M w pc lv (.long x :: st) Q := by
  subst hq
  intro p e R s m args below meth c H locs ls C hR hL hl
  exact lv_lstore C.1 C.2.1 hd hl hn (by rw [zfl2_eq, ← hv]; rfl) (fun ls hl => k p e R s m args below meth c H locs ls C hR hL hl)
theorem zIinc {i : Nat} {a : Int} {x v : Int32} {lv' : List (Nat × Value)} (hd : decode (zmc M) pc = .ok (.iinc i a, 3)) (hx : zlk lv i = some (.int x)) (ha : x + Int32.ofInt a = v) (hn : i < zmn M) (hv : (i, Value.int v) :: zfl lv i = lv') (hq : q = pc + 3) (k : zAW g l d n0 n1 M w q lv' st Q) : zAW g l d n0 n1 M w pc lv st Q := by
  subst hq
  intro p e R s m args below meth c H locs ls C hR hL hl
  obtain ⟨j, hj⟩ := List.getElem?_of_mem (List.mem_map.mpr ⟨(i, Value.int x), zlk_mem hx, rfl⟩ : (i, zrv g (.int x)) ∈ zlv g lv)
  exact lv_iinc C.1 C.2.1 hd hl hj ha hn (by rw [zfl_eq, ← hv]; rfl) (fun ls hl => k p e R s m args below meth c H locs ls C hR hL hl)
theorem zGoto {off : Int} (hd : decode (zmc M) pc = .ok (.goto off, 3)) (ht : (pc : Int) + off = (q : Int)) (k : zAW g l d n0 n1 M w q lv st Q) : zAW g l d n0 n1 M w pc lv st Q := by
  intro p e R s m args below meth c H locs ls C hR hL hl
  exact lv_goto C.1 C.2.1 hd ht (k p e R s m args below meth c H locs ls C hR hL hl)
theorem zIfnull {x : Nat} {off : Int} (hd : decode (zmc M) pc = .ok (.ifnull off, 3)) (hq : q = pc + 3) (k : zAW g l d n0 n1 M w q lv st Q) : zAW g l d n0 n1 M w pc lv (.ref x :: st) Q := by
  subst hq
  intro p e R s m args below meth c H locs ls C hR hL hl
  exact lv_ifnull C.1 C.2.1 hd (k p e R s m args below meth c H locs ls C hR hL hl)
theorem zIfnull0 {off : Int} (hd : decode (zmc M) pc = .ok (.ifnull off, 3)) (ht : (pc : Int) + off = (q : Int)) (k : zAW g l d n0 n1 M w q lv st Q) : zAW g l d n0 n1 M w pc lv (.null :: st) Q := by
  intro p e R s m args below meth c H locs ls C hR hL hl
  exact lv_ifnullN C.1 C.2.1 hd ht (k p e R s m args below meth c H locs ls C hR hL hl)
theorem zIfnonnull {x : Nat} {off : Int} (hd : decode (zmc M) pc = .ok (.ifnonnull off, 3)) (ht : (pc : Int) + off = (q : Int)) (k : zAW g l d n0 n1 M w q lv st Q) : zAW g l d n0 n1 M w pc lv (.ref x :: st) Q := by
  intro p e R s m args below meth c H locs ls C hR hL hl
  exact lv_ifnonnull C.1 C.2.1 hd ht (k p e R s m args below meth c H locs ls C hR hL hl)
theorem zIfnonnull0 {off : Int} (hd : decode (zmc M) pc = .ok (.ifnonnull off, 3)) (hq : q = pc + 3) (k : zAW g l d n0 n1 M w q lv st Q) : zAW g l d n0 n1 M w pc lv (.null :: st) Q := by
  subst hq
  intro p e R s m args below meth c H locs ls C hR hL hl
  exact lv_ifnonnullN C.1 C.2.1 hd (k p e R s m args below meth c H locs ls C hR hL hl)
theorem zIcmp_eq {x y : Int32} {off : Int} {tgt : Nat} (hd : decode (zmc M) pc = .ok (.if_icmp .eq off, 3)) (ht : (pc : Int) + off = (tgt : Int)) (hq : q = pc + 3) (kt : x = y → zAW g l d n0 n1 M w tgt lv st Q) (kf : ¬ x = y → zAW g l d n0 n1 M w q lv st Q) : zAW g l d n0 n1 M w pc lv (.int y :: .int x :: st) Q := by
  subst hq
  intro p e R s m args below meth c H locs ls C hR hL hl
  exact lv_icmp_eq C.1 C.2.1 hd ht (fun h => kt h p e R s m args below meth c H locs ls C hR hL hl) (fun h => kf h p e R s m args below meth c H locs ls C hR hL hl)
theorem zIf_eq {x : Int32} {off : Int} {tgt : Nat} (hd : decode (zmc M) pc = .ok (.ifCond .eq off, 3)) (ht : (pc : Int) + off = (tgt : Int)) (hq : q = pc + 3) (kt : x = 0 → zAW g l d n0 n1 M w tgt lv st Q) (kf : ¬ x = 0 → zAW g l d n0 n1 M w q lv st Q) : zAW g l d n0 n1 M w pc lv (.int x :: st) Q := by
  subst hq
  intro p e R s m args below meth c H locs ls C hR hL hl
  exact lv_if_eq C.1 C.2.1 hd ht (fun h => kt h p e R s m args below meth c H locs ls C hR hL hl) (fun h => kf h p e R s m args below meth c H locs ls C hR hL hl)
theorem zIcmp_ne {x y : Int32} {off : Int} {tgt : Nat} (hd : decode (zmc M) pc = .ok (.if_icmp .ne off, 3)) (ht : (pc : Int) + off = (tgt : Int)) (hq : q = pc + 3) (kt : ¬ x = y → zAW g l d n0 n1 M w tgt lv st Q) (kf : x = y → zAW g l d n0 n1 M w q lv st Q) : zAW g l d n0 n1 M w pc lv (.int y :: .int x :: st) Q := by
  subst hq
  intro p e R s m args below meth c H locs ls C hR hL hl
  exact lv_icmp_ne C.1 C.2.1 hd ht (fun h => kt h p e R s m args below meth c H locs ls C hR hL hl) (fun h => kf h p e R s m args below meth c H locs ls C hR hL hl)
theorem zIf_ne {x : Int32} {off : Int} {tgt : Nat} (hd : decode (zmc M) pc = .ok (.ifCond .ne off, 3)) (ht : (pc : Int) + off = (tgt : Int)) (hq : q = pc + 3) (kt : ¬ x = 0 → zAW g l d n0 n1 M w tgt lv st Q) (kf : x = 0 → zAW g l d n0 n1 M w q lv st Q) : zAW g l d n0 n1 M w pc lv (.int x :: st) Q := by
  subst hq
  intro p e R s m args below meth c H locs ls C hR hL hl
  exact lv_if_ne C.1 C.2.1 hd ht (fun h => kt h p e R s m args below meth c H locs ls C hR hL hl) (fun h => kf h p e R s m args below meth c H locs ls C hR hL hl)
theorem zIcmp_lt {x y : Int32} {off : Int} {tgt : Nat} (hd : decode (zmc M) pc = .ok (.if_icmp .lt off, 3)) (ht : (pc : Int) + off = (tgt : Int)) (hq : q = pc + 3) (kt : x < y → zAW g l d n0 n1 M w tgt lv st Q) (kf : ¬ x < y → zAW g l d n0 n1 M w q lv st Q) : zAW g l d n0 n1 M w pc lv (.int y :: .int x :: st) Q := by
  subst hq
  intro p e R s m args below meth c H locs ls C hR hL hl
  exact lv_icmp_lt C.1 C.2.1 hd ht (fun h => kt h p e R s m args below meth c H locs ls C hR hL hl) (fun h => kf h p e R s m args below meth c H locs ls C hR hL hl)
theorem zIf_lt {x : Int32} {off : Int} {tgt : Nat} (hd : decode (zmc M) pc = .ok (.ifCond .lt off, 3)) (ht : (pc : Int) + off = (tgt : Int)) (hq : q = pc + 3) (kt : x < 0 → zAW g l d n0 n1 M w tgt lv st Q) (kf : ¬ x < 0 → zAW g l d n0 n1 M w q lv st Q) : zAW g l d n0 n1 M w pc lv (.int x :: st) Q := by
  subst hq
  intro p e R s m args below meth c H locs ls C hR hL hl
  exact lv_if_lt C.1 C.2.1 hd ht (fun h => kt h p e R s m args below meth c H locs ls C hR hL hl) (fun h => kf h p e R s m args below meth c H locs ls C hR hL hl)
theorem zIcmp_ge {x y : Int32} {off : Int} {tgt : Nat} (hd : decode (zmc M) pc = .ok (.if_icmp .ge off, 3)) (ht : (pc : Int) + off = (tgt : Int)) (hq : q = pc + 3) (kt : y ≤ x → zAW g l d n0 n1 M w tgt lv st Q) (kf : ¬ y ≤ x → zAW g l d n0 n1 M w q lv st Q) : zAW g l d n0 n1 M w pc lv (.int y :: .int x :: st) Q := by
  subst hq
  intro p e R s m args below meth c H locs ls C hR hL hl
  exact lv_icmp_ge C.1 C.2.1 hd ht (fun h => kt h p e R s m args below meth c H locs ls C hR hL hl) (fun h => kf h p e R s m args below meth c H locs ls C hR hL hl)
theorem zIf_ge {x : Int32} {off : Int} {tgt : Nat} (hd : decode (zmc M) pc = .ok (.ifCond .ge off, 3)) (ht : (pc : Int) + off = (tgt : Int)) (hq : q = pc + 3) (kt : 0 ≤ x → zAW g l d n0 n1 M w tgt lv st Q) (kf : ¬ 0 ≤ x → zAW g l d n0 n1 M w q lv st Q) : zAW g l d n0 n1 M w pc lv (.int x :: st) Q := by
  subst hq
  intro p e R s m args below meth c H locs ls C hR hL hl
  exact lv_if_ge C.1 C.2.1 hd ht (fun h => kt h p e R s m args below meth c H locs ls C hR hL hl) (fun h => kf h p e R s m args below meth c H locs ls C hR hL hl)
theorem zIcmp_gt {x y : Int32} {off : Int} {tgt : Nat} (hd : decode (zmc M) pc = .ok (.if_icmp .gt off, 3)) (ht : (pc : Int) + off = (tgt : Int)) (hq : q = pc + 3) (kt : y < x → zAW g l d n0 n1 M w tgt lv st Q) (kf : ¬ y < x → zAW g l d n0 n1 M w q lv st Q) : zAW g l d n0 n1 M w pc lv (.int y :: .int x :: st) Q := by
  subst hq
  intro p e R s m args below meth c H locs ls C hR hL hl
  exact lv_icmp_gt C.1 C.2.1 hd ht (fun h => kt h p e R s m args below meth c H locs ls C hR hL hl) (fun h => kf h p e R s m args below meth c H locs ls C hR hL hl)
theorem zIf_gt {x : Int32} {off : Int} {tgt : Nat} (hd : decode (zmc M) pc = .ok (.ifCond .gt off, 3)) (ht : (pc : Int) + off = (tgt : Int)) (hq : q = pc + 3) (kt : 0 < x → zAW g l d n0 n1 M w tgt lv st Q) (kf : ¬ 0 < x → zAW g l d n0 n1 M w q lv st Q) : zAW g l d n0 n1 M w pc lv (.int x :: st) Q := by
  subst hq
  intro p e R s m args below meth c H locs ls C hR hL hl
  exact lv_if_gt C.1 C.2.1 hd ht (fun h => kt h p e R s m args below meth c H locs ls C hR hL hl) (fun h => kf h p e R s m args below meth c H locs ls C hR hL hl)
theorem zIcmp_le {x y : Int32} {off : Int} {tgt : Nat} (hd : decode (zmc M) pc = .ok (.if_icmp .le off, 3)) (ht : (pc : Int) + off = (tgt : Int)) (hq : q = pc + 3) (kt : x ≤ y → zAW g l d n0 n1 M w tgt lv st Q) (kf : ¬ x ≤ y → zAW g l d n0 n1 M w q lv st Q) : zAW g l d n0 n1 M w pc lv (.int y :: .int x :: st) Q := by
  subst hq
  intro p e R s m args below meth c H locs ls C hR hL hl
  exact lv_icmp_le C.1 C.2.1 hd ht (fun h => kt h p e R s m args below meth c H locs ls C hR hL hl) (fun h => kf h p e R s m args below meth c H locs ls C hR hL hl)
theorem zIf_le {x : Int32} {off : Int} {tgt : Nat} (hd : decode (zmc M) pc = .ok (.ifCond .le off, 3)) (ht : (pc : Int) + off = (tgt : Int)) (hq : q = pc + 3) (kt : x ≤ 0 → zAW g l d n0 n1 M w tgt lv st Q) (kf : ¬ x ≤ 0 → zAW g l d n0 n1 M w q lv st Q) : zAW g l d n0 n1 M w pc lv (.int x :: st) Q := by
  subst hq
  intro p e R s m args below meth c H locs ls C hR hL hl
  exact lv_if_le C.1 C.2.1 hd ht (fun h => kt h p e R s m args below meth c H locs ls C hR hL hl) (fun h => kf h p e R s m args below meth c H locs ls C hR hL hl)
end ZR
end
section
theorem zsh_small (a : Nat) : (zsh a).2 < 1000 := by
  unfold zsh
  by_cases h : a < 1000
  · rw [if_pos h, List.getD_eq_getElem?_getD]
    cases hx : zshL[a]? with
    | none => decide
    | some v => exact (show ∀ v ∈ zshL, v.2 < 1000 by decide +kernel) v (List.mem_of_getElem? hx)
  · rw [if_neg h]; decide
theorem zad_lt {g : zG} {a kd len : Nat} (hs : zsh a = (kd, len)) (hk : kd < 99) : zad g a = zgB g + a := by
  unfold zsh at hs
  unfold zad
  by_cases h : a < 1000
  · rw [if_pos h]
  · rw [if_neg h] at hs
    cases hs
    omega
theorem zad_st (g : zG) (j : Nat) : zad g (1000 + j) = zgS g j := by
  unfold zad
  rw [if_neg (by omega), Nat.add_sub_cancel_left]
theorem zin {j len : Nat} (h : j < len) (hl : len < 2 ^ 31) : ¬ (nI j < 0 ∨ len ≤ (nI j).toNatClampNeg) := nI_in h hl
def zFL (own : String) (idx kd k : Nat) (r : Bool) : Prop := Cond.fieldLink own idx (zcR kd) (zcT kd k).2.1 (zcT kd k).2.2.1 ∈ zWT ∧ kd < 13 ∧ k < zcN kd ∧ zrf kd k = r
theorem zfv_i {g : zG} {i : Nat → Int32} {r : Nat → Option Nat} {kd k : Nat} (h : zrf kd k = false) : zfv g i r kd k = .int (i k) := by
  unfold zfv; rw [h]; rfl
theorem zfv_r {g : zG} {i : Nat → Int32} {r : Nat → Option Nat} {kd k : Nat} (h : zrf kd k = true) : zfv g i r kd k = va_rf ((r k).map (zad g)) := by
  unfold zfv; rw [h]; rfl
theorem zfv_upi {g : zG} {i : Nat → Int32} {r : Nat → Option Nat} {kd k : Nat} {x : Int32} (h : zrf kd k = false) (j : Nat) : updV (zfv g i r kd) k (.int x) j = zfv g (zup i k x) r kd j := by
  unfold updV
  by_cases e : j = k
  · subst e
    rw [if_pos rfl, zfv_i h, zup_eq]
  · rw [if_neg e]
    unfold zfv
    rw [zup_ne e]
theorem zfv_upr {g : zG} {i : Nat → Int32} {r : Nat → Option Nat} {kd k : Nat} {x : Option Nat} (h : zrf kd k = true) (j : Nat) : updV (zfv g i r kd) k (va_rf (x.map (zad g))) j = zfv g i (zup r k x) kd j := by
  unfold updV
  by_cases e : j = k
  · subst e
    rw [if_pos rfl, zfv_r h, zup_eq]
  · rw [if_neg e]
    unfold zfv
    rw [zup_ne e]
theorem zel_i {g : zG} {i : Nat → Int32} {l : Nat → Int64} {r : Nat → Option Nat} {kd k : Nat} (h : kd < 24) (h2 : ¬ kd = 21) : zel g i l r kd k = .int (i k) := by
  unfold zel; rw [if_neg h2, if_pos h]
theorem zel_l {g : zG} {i : Nat → Int32} {l : Nat → Int64} {r : Nat → Option Nat} {k : Nat} : zel g i l r 21 k = .long (l k) := rfl
theorem zel_r {g : zG} {i : Nat → Int32} {l : Nat → Int64} {r : Nat → Option Nat} {kd k : Nat} (h : ¬ kd < 24) : zel g i l r kd k = va_rf ((r k).map (zad g)) := by
  unfold zel; rw [if_neg (by omega), if_neg h]
theorem zarr_st {cA : ClassId} {N k : Nat} {f f' : Nat → Value} {v : Value} (h : ∀ j, updV f k v j = f' j) : (arrV cA N f).setSlot k v = arrV cA N f' := by
  rw [arrV_store]
  exact congrArg (arrV cA N) (funext h)
theorem zel_upi {g : zG} {i : Nat → Int32} {l : Nat → Int64} {r : Nat → Option Nat} {kd k : Nat} {x : Int32} (h : kd < 24) (h2 : ¬ kd = 21) (j : Nat) : updV (zel g i l r kd) k (.int x) j = zel g (zup i k x) l r kd j := by
  unfold updV
  by_cases e : j = k
  · subst e
    rw [if_pos rfl, zel_i h h2, zup_eq]
  · rw [if_neg e, zel_i h h2, zel_i h h2, zup_ne e]
theorem zel_upl {g : zG} {i : Nat → Int32} {l : Nat → Int64} {r : Nat → Option Nat} {k : Nat} {x : Int64} (j : Nat) : updV (zel g i l r 21) k (.long x) j = zel g i (zup l k x) r 21 j := by
  unfold updV
  by_cases e : j = k
  · subst e
    rw [if_pos rfl, zel_l, zup_eq]
  · rw [if_neg e, zel_l, zel_l, zup_ne e]
theorem zel_upr {g : zG} {i : Nat → Int32} {l : Nat → Int64} {r : Nat → Option Nat} {kd k : Nat} {x : Option Nat} (h : ¬ kd < 24) (j : Nat) : updV (zel g i l r kd) k (va_rf (x.map (zad g))) j = zel g i l (zup r k x) kd j := by
  unfold updV
  by_cases e : j = k
  · subst e
    rw [if_pos rfl, zel_r h, zup_eq]
  · rw [if_neg e, zel_r h, zel_r h, zup_ne e]
theorem zRep_upI {g : zG} {I : Nat → Nat → Int32} {L : Nat → Nat → Int64} {R : Nat → Nat → Option Nat} {n a : Nat} {f : Nat → Int32} {H H1 : Heap} (h : zRep g (I, L, R, n) H) (ha : a < n) (z : H1.size = H.size) (oq : ∀ q : Nat, q ≠ zgB g + a → H1[q]? = H[q]?) (hc : zcell g f (L a) (R a) a H1) : zRep g (zup I a f, L, R, n) H1 :=
  zRep_set h ha rfl z oq (fun b hb => zup_ne hb) (fun _ _ => rfl) (fun _ _ => rfl) (by show zcell g (zup I a f a) (L a) (R a) a H1; rw [zup_eq]; exact hc)
theorem zRep_upL {g : zG} {I : Nat → Nat → Int32} {L : Nat → Nat → Int64} {R : Nat → Nat → Option Nat} {n a : Nat} {f : Nat → Int64} {H H1 : Heap} (h : zRep g (I, L, R, n) H) (ha : a < n) (z : H1.size = H.size) (oq : ∀ q : Nat, q ≠ zgB g + a → H1[q]? = H[q]?) (hc : zcell g (I a) f (R a) a H1) : zRep g (I, zup L a f, R, n) H1 :=
  zRep_set h ha rfl z oq (fun _ _ => rfl) (fun b hb => zup_ne hb) (fun _ _ => rfl) (by show zcell g (I a) (zup L a f a) (R a) a H1; rw [zup_eq]; exact hc)
theorem zRep_upR {g : zG} {I : Nat → Nat → Int32} {L : Nat → Nat → Int64} {R : Nat → Nat → Option Nat} {n a : Nat} {f : Nat → Option Nat} {H H1 : Heap} (h : zRep g (I, L, R, n) H) (ha : a < n) (z : H1.size = H.size) (oq : ∀ q : Nat, q ≠ zgB g + a → H1[q]? = H[q]?) (hc : zcell g (I a) (L a) f a H1) : zRep g (I, L, zup R a f, n) H1 :=
  zRep_set h ha rfl z oq (fun _ _ => rfl) (fun _ _ => rfl) (fun b hb => zup_ne hb) (by show zcell g (I a) (L a) (zup R a f a) a H1; rw [zup_eq]; exact hc)
section ZF
variable {g : zG} {l : Launch} {d n0 n1 : Nat} {M : zM} {w : zW} {I : Nat → Nat → Int32} {L : Nat → Nat → Int64} {R : Nat → Nat → Option Nat} {n pc q : Nat} {lv : List (Nat × Value)} {st : List Value} {Q : Option Value → zW → Prop}
theorem zGetI {idx kd len a k : Nat} (hd : decode (zmc M) pc = .ok (.getfield idx, 3)) (hf : zFL (zmo M) idx kd k false) (hs : zsh a = (kd, len)) (ha : a < n) (hq : q = pc + 3) (kk : zAW g l d n0 n1 M (I, L, R, n) q lv (.int (I a k) :: st) Q) : zAW g l d n0 n1 M (I, L, R, n) pc lv (.ref a :: st) Q := by
  subst hq
  intro p e Rm s m args below meth c H locs ls C hR hL hl
  obtain ⟨h1, h2, h3, h4⟩ := hf
  obtain ⟨hx, hb, -, -, -, -, hown, hts, hSt, -⟩ := id C
  obtain ⟨cell, q1, q2, q3, q4⟩ := zcell_o (hR.2.1 a ha) hs h2
  obtain ⟨hS, hfc, kC, hkC, hkind⟩ := hSt.1.1 kd _ (zc_at h2)
  obtain ⟨cf, kf, fi, f, hi, hsl⟩ := hS k h3
  show W _ _ _ _ _ _ _ _ _ _ _ _ _ _ _ (F0 m pc ls (.ref (zad g a) :: st.map (zrv g)))
  rw [zad_lt hs (Nat.lt_trans h2 (by decide))]
  refine W.getf hx hb hown (hts _ h1) (by have := hi; rwa [zc_own h2 k h3] at this) (u_facts hfc hkC (u_lays hts (zc_in h2) h3) hi).1 q1 (by rw [q3]; exact fun h => by cases h) (v := .int (I a k)) ?_ rfl rfl hd (kk p e Rm s m args below meth c H locs ls C hR hL hl)
  rw [hsl, q4 k h3]
  exact congrArg some (zfv_i h4)
theorem zGetR {idx kd len a k b : Nat} (hd : decode (zmc M) pc = .ok (.getfield idx, 3)) (hf : zFL (zmo M) idx kd k true) (hs : zsh a = (kd, len)) (ha : a < n) (hr : R a k = some b) (hq : q = pc + 3) (kk : zAW g l d n0 n1 M (I, L, R, n) q lv (.ref b :: st) Q) : zAW g l d n0 n1 M (I, L, R, n) pc lv (.ref a :: st) Q := by
  subst hq
  intro p e Rm s m args below meth c H locs ls C hR hL hl
  obtain ⟨h1, h2, h3, h4⟩ := hf
  obtain ⟨hx, hb, -, -, -, -, hown, hts, hSt, -⟩ := id C
  obtain ⟨cell, q1, q2, q3, q4⟩ := zcell_o (hR.2.1 a ha) hs h2
  obtain ⟨hS, hfc, kC, hkC, hkind⟩ := hSt.1.1 kd _ (zc_at h2)
  obtain ⟨cf, kf, fi, f, hi, hsl⟩ := hS k h3
  show W _ _ _ _ _ _ _ _ _ _ _ _ _ _ _ (F0 m pc ls (.ref (zad g a) :: st.map (zrv g)))
  rw [zad_lt hs (Nat.lt_trans h2 (by decide))]
  refine W.getf hx hb hown (hts _ h1) (by have := hi; rwa [zc_own h2 k h3] at this) (u_facts hfc hkC (u_lays hts (zc_in h2) h3) hi).1 q1 (by rw [q3]; exact fun h => by cases h) (v := .ref (zad g b)) ?_ rfl rfl hd (kk p e Rm s m args below meth c H locs ls C hR hL hl)
  rw [hsl, q4 k h3]
  refine congrArg some ((zfv_r h4).trans ?_)
  show va_rf ((R a k).map (zad g)) = _
  rw [hr]; rfl
theorem zPutI {idx kd len a k : Nat} {x : Int32} (hd : decode (zmc M) pc = .ok (.putfield idx, 3)) (hf : zFL (zmo M) idx kd k false) (hfin : (zcT kd k).2.2.2 = false) (hn : narrow (zcY kd k) (.int x) = .int x) (hfit : fits (zcY kd k) (.int x) = true) (hs : zsh a = (kd, len)) (ha : a < n) (hq : q = pc + 3) (kk : zAW g l d n0 n1 M (zup I a (zup (I a) k x), L, R, n) q lv st Q) : zAW g l d n0 n1 M (I, L, R, n) pc lv (.int x :: .ref a :: st) Q := by
  subst hq
  intro p e Rm s m args below meth c H locs ls C hR hL hl
  obtain ⟨h1, h2, h3, h4⟩ := hf
  obtain ⟨hx, hb, -, -, -, -, hown, hts, hSt, -⟩ := id C
  obtain ⟨cell, q1, q2, q3, q4⟩ := zcell_o (hR.2.1 a ha) hs h2
  have hap := va_apart (own := zmo M) hts (zc_in h2) (zcY kd) (zc_ty h2) (zc_nm h2) hSt.1 (zc_at h2)
  obtain ⟨hS, hfc, kC, hkC, hkind⟩ := hSt.1.1 kd _ (zc_at h2)
  obtain ⟨cf, kf, fi, f, hi, hsl⟩ := hS k h3
  have hlay := hts _ (zc_in h2 _ (u_in_lay h3))
  unfold u_lay at hlay
  rw [if_neg (by rw [hfin]; decide)] at hlay
  have hst := (u_facts hfc hkC (u_lays hts (zc_in h2) h3) hi).1
  have h6 := u_store hfc hkC hkind hlay hi (zc_ty h2 k h3) hn hfit
  show W _ _ _ _ _ _ _ _ _ _ _ _ _ _ _ (F0 m pc ls (.int x :: .ref (zad g a) :: st.map (zrv g)))
  rw [zad_lt hs (Nat.lt_trans h2 (by decide))]
  refine W.putK hx hb (f := f) ⟨hown, hts _ h1, ⟨_, _, _, by have := hi; rwa [zc_own h2 k h3] at this⟩, hst⟩ (by rw [q2]; exact h6) q1 q3 (by rw [hsl]; exact k2_hasslot (q4 k h3)) rfl rfl hd fun H' e1 e2 e3 => ?_
  rw [hsl] at e1 ⊢
  refine kk p e Rm s m args below meth c H' _ ls C (zRep_upI hR ha e2 e3 (zcell_oi hs h2 (t_OB.to (V := updV (zfv g (I a) (R a) kd) k (.int x)) ⟨_, e1, q2, q3, t_set q4 hap h3 _⟩ (fun j _ => zfv_upi h4 j)))) (fun z hz => ?_) hl
  rcases List.mem_append.mp hz with hz | hz
  · exact hL z hz
  · rw [List.mem_singleton.mp hz]; exact Nat.le_add_right _ _
theorem zPutR {idx kd len a k : Nat} {x : Option Nat} {v : Value} (hd : decode (zmc M) pc = .ok (.putfield idx, 3)) (hf : zFL (zmo M) idx kd k true) (hfin : (zcT kd k).2.2.2 = false) (hv : va_rf x = v) (hn : ∀ b : Nat, narrow (zcY kd k) (.ref b) = .ref b) (hfit : ∀ b : Nat, fits (zcY kd k) (.ref b) = true) (hn2 : narrow (zcY kd k) .null = .null) (hfit2 : fits (zcY kd k) .null = true) (hs : zsh a = (kd, len)) (ha : a < n) (hq : q = pc + 3) (kk : zAW g l d n0 n1 M (I, L, zup R a (zup (R a) k x), n) q lv st Q) : zAW g l d n0 n1 M (I, L, R, n) pc lv (v :: .ref a :: st) Q := by
  subst hq
  subst hv
  intro p e Rm s m args below meth c H locs ls C hR hL hl
  obtain ⟨h1, h2, h3, h4⟩ := hf
  obtain ⟨hx, hb, -, -, -, -, hown, hts, hSt, -⟩ := id C
  obtain ⟨cell, q1, q2, q3, q4⟩ := zcell_o (hR.2.1 a ha) hs h2
  have hap := va_apart (own := zmo M) hts (zc_in h2) (zcY kd) (zc_ty h2) (zc_nm h2) hSt.1 (zc_at h2)
  obtain ⟨hS, hfc, kC, hkC, hkind⟩ := hSt.1.1 kd _ (zc_at h2)
  obtain ⟨cf, kf, fi, f, hi, hsl⟩ := hS k h3
  have hlay := hts _ (zc_in h2 _ (u_in_lay h3))
  unfold u_lay at hlay
  rw [if_neg (by rw [hfin]; decide)] at hlay
  have hst := (u_facts hfc hkC (u_lays hts (zc_in h2) h3) hi).1
  have hv : zrv g (va_rf x) = va_rf (x.map (zad g)) := by cases x <;> rfl
  have h6 : k2_Sd s f (zgC g kd) (va_rf (x.map (zad g))) := by
    cases x with
    | none => exact u_store hfc hkC hkind hlay hi (zc_ty h2 k h3) hn2 hfit2
    | some b => exact u_store hfc hkC hkind hlay hi (zc_ty h2 k h3) (hn _) (hfit _)
  show W _ _ _ _ _ _ _ _ _ _ _ _ _ _ _ (F0 m pc ls (zrv g (va_rf x) :: .ref (zad g a) :: st.map (zrv g)))
  rw [hv, zad_lt hs (Nat.lt_trans h2 (by decide))]
  refine W.putK hx hb (f := f) ⟨hown, hts _ h1, ⟨_, _, _, by have := hi; rwa [zc_own h2 k h3] at this⟩, hst⟩ (by rw [q2]; exact h6) q1 q3 (by rw [hsl]; exact k2_hasslot (q4 k h3)) rfl rfl hd fun H' e1 e2 e3 => ?_
  rw [hsl] at e1 ⊢
  refine kk p e Rm s m args below meth c H' _ ls C (zRep_upR hR ha e2 e3 (zcell_oi hs h2 (t_OB.to (V := updV (zfv g (I a) (R a) kd) k (va_rf (x.map (zad g)))) ⟨_, e1, q2, q3, t_set q4 hap h3 _⟩ (fun j _ => zfv_upr h4 j)))) (fun z hz => ?_) hl
  rcases List.mem_append.mp hz with hz | hz
  · exact hL z hz
  · rw [List.mem_singleton.mp hz]; exact Nat.le_add_right _ _
theorem zPutF {idx kd len a k b : Nat} (hd : decode (zmc M) pc = .ok (.putfield idx, 3)) (hf : zFL (zmo M) idx kd k true) (hfin : (zcT kd k).2.2.2 = true) (hin : (zmy M).name = "<init>") (how : zmo M = zcR kd) (hn : ∀ b : Nat, narrow (zcY kd k) (.ref b) = .ref b) (hfit : ∀ b : Nat, fits (zcY kd k) (.ref b) = true) (hs : zsh a = (kd, len)) (ha : a < n) (hq : q = pc + 3) (kk : zAW g l d n0 n1 M (I, L, zup R a (zup (R a) k (some b)), n) q lv st Q) : zAW g l d n0 n1 M (I, L, R, n) pc lv (.ref b :: .ref a :: st) Q := by
  subst hq
  intro p e Rm s m args below meth c H locs ls C hR hL hl
  obtain ⟨h1, h2, h3, h4⟩ := hf
  obtain ⟨hx, hb, -, -, -, hnm, hown, hts, hSt, -⟩ := id C
  obtain ⟨cell, q1, q2, q3, q4⟩ := zcell_o (hR.2.1 a ha) hs h2
  have hap := va_apart (own := zmo M) hts (zc_in h2) (zcY kd) (zc_ty h2) (zc_nm h2) hSt.1 (zc_at h2)
  obtain ⟨hS, hfc, kC, hkC, hkind⟩ := hSt.1.1 kd _ (zc_at h2)
  obtain ⟨cf, kf, fi, f, hi, hsl⟩ := hS k h3
  have hlay := hts _ (zc_in h2 _ (u_in_lay h3))
  unfold u_lay at hlay
  rw [if_pos hfin] at hlay
  have hst := (u_facts hfc hkC (u_lays hts (zc_in h2) h3) hi).1
  have hcf : m.cls = cf := by
    obtain ⟨_, _, c', _, _, _, -, -, hf', -, -, -, hown2, -⟩ := Cond.laysFinal_spec hlay
    have e1 : c' = cf := by have := hi.symm.trans hf'; simp at this; exact this.1.symm
    rw [zc_own h2 k h3, ← how] at hown2
    rw [← e1]; exact Option.some.inj (hown.symm.trans hown2)
  have h6 := u_fits hfc hkC hkind (Or.inr hlay) hi (zc_ty h2 k h3) (hn (zad g b)) (hfit (zad g b))
  show W _ _ _ _ _ _ _ _ _ _ _ _ _ _ _ (F0 m pc ls (.ref (zad g b) :: .ref (zad g a) :: st.map (zrv g)))
  rw [zad_lt hs (Nat.lt_trans h2 (by decide))]
  refine W.putFinK hx hb hown (hts _ h1) (by have := hi; rwa [zc_own h2 k h3] at this) hst hcf (hnm.trans hin) (by rw [q2]; exact h6) q1 q3 (by rw [hsl]; exact k2_hasslot (q4 k h3)) rfl rfl hd fun H' e1 e2 e3 => ?_
  rw [hsl] at e1 ⊢
  refine kk p e Rm s m args below meth c H' _ ls C (zRep_upR hR ha e2 e3 (zcell_oi hs h2 (t_OB.to (V := updV (zfv g (I a) (R a) kd) k (va_rf ((some b).map (zad g)))) ⟨_, e1, q2, q3, t_set q4 hap h3 _⟩ (fun j _ => zfv_upr h4 j)))) (fun z hz => ?_) hl
  rcases List.mem_append.mp hz with hz | hz
  · exact hL z hz
  · rw [List.mem_singleton.mp hz]; exact Nat.le_add_right _ _
theorem zIald {len a j : Nat} {i : Int32} (hd : decode (zmc M) pc = .ok (.iaload, 1)) (hs : zsh a = (20, len)) (ha : a < n) (hi : i = nI j) (hj : j < len) (hq : q = pc + 1) (kk : zAW g l d n0 n1 M (I, L, R, n) q lv (.int (I a j) :: st) Q) : zAW g l d n0 n1 M (I, L, R, n) pc lv (.int i :: .ref a :: st) Q := by
  subst hq
  subst hi
  intro p e Rm s m args below meth c H locs ls C hR hL hl
  have hlen : len < 1000 := by have := zsh_small a; rw [hs] at this; exact this
  show W _ _ _ _ _ _ _ _ _ _ _ _ _ _ _ (F0 m pc ls (.int (nI j) :: .ref (zad g a) :: st.map (zrv g)))
  rw [zad_lt hs (by decide)]
  refine W.iald C.1 C.2.1 (zcell_a (hR.2.1 a ha) hs (by decide)) ((C.2.2.2.2.2.2.2.2.1.1.2 0 _ rfl).1 len _) (fun q => by cases q) (by show ¬ (_ ∨ (arrV _ _ _).slots.size ≤ _); rw [arrV_size]; exact zin hj (by omega)) (v := .int (I a j)) ?_ rfl rfl hd (kk p e Rm s m args below meth c H locs ls C hR hL hl)
  rw [nI_clamp (by omega), arrV_read _ _ hj]
  rfl
theorem zLald {len a j : Nat} {i : Int32} (hd : decode (zmc M) pc = .ok (.laload, 1)) (hs : zsh a = (21, len)) (ha : a < n) (hi : i = nI j) (hj : j < len) (hq : q = pc + 1) (kk : zAW g l d n0 n1 M (I, L, R, n) q lv (.long (L a j) :: st) Q) : zAW g l d n0 n1 M (I, L, R, n) pc lv (.int i :: .ref a :: st) Q := by
  subst hq
  subst hi
  intro p e Rm s m args below meth c H locs ls C hR hL hl
  have hlen : len < 1000 := by have := zsh_small a; rw [hs] at this; exact this
  show W _ _ _ _ _ _ _ _ _ _ _ _ _ _ _ (F0 m pc ls (.int (nI j) :: .ref (zad g a) :: st.map (zrv g)))
  rw [zad_lt hs (by decide)]
  refine W.lald C.1 C.2.1 (zcell_a (hR.2.1 a ha) hs (by decide)) ((C.2.2.2.2.2.2.2.2.1.1.2 1 _ rfl).1 len _) (fun q => by cases q) (by show ¬ (_ ∨ (arrV _ _ _).slots.size ≤ _); rw [arrV_size]; exact zin hj (by omega)) (v := .long (L a j)) ?_ rfl rfl hd (kk p e Rm s m args below meth c H locs ls C hR hL hl)
  rw [nI_clamp (by omega), arrV_read _ _ hj]
  rfl
theorem zBald {len a j : Nat} {i : Int32} (hd : decode (zmc M) pc = .ok (.baload, 1)) (hs : zsh a = (22, len)) (ha : a < n) (hi : i = nI j) (hj : j < len) (hq : q = pc + 1) (kk : zAW g l d n0 n1 M (I, L, R, n) q lv (.int (I a j) :: st) Q) : zAW g l d n0 n1 M (I, L, R, n) pc lv (.int i :: .ref a :: st) Q := by
  subst hq
  subst hi
  intro p e Rm s m args below meth c H locs ls C hR hL hl
  have hlen : len < 1000 := by have := zsh_small a; rw [hs] at this; exact this
  show W _ _ _ _ _ _ _ _ _ _ _ _ _ _ _ (F0 m pc ls (.int (nI j) :: .ref (zad g a) :: st.map (zrv g)))
  rw [zad_lt hs (by decide)]
  refine W.bald C.1 C.2.1 (zcell_a (hR.2.1 a ha) hs (by decide)) ((C.2.2.2.2.2.2.2.2.1.1.2 2 _ rfl).1 len _) (fun q => by cases q) (by show ¬ (_ ∨ (arrV _ _ _).slots.size ≤ _); rw [arrV_size]; exact zin hj (by omega)) (v := .int (I a j)) ?_ rfl rfl hd (kk p e Rm s m args below meth c H locs ls C hR hL hl)
  rw [nI_clamp (by omega), arrV_read _ _ hj]
  rfl
theorem zSald {len a j : Nat} {i : Int32} (hd : decode (zmc M) pc = .ok (.saload, 1)) (hs : zsh a = (23, len)) (ha : a < n) (hi : i = nI j) (hj : j < len) (hq : q = pc + 1) (kk : zAW g l d n0 n1 M (I, L, R, n) q lv (.int (I a j) :: st) Q) : zAW g l d n0 n1 M (I, L, R, n) pc lv (.int i :: .ref a :: st) Q := by
  subst hq
  subst hi
  intro p e Rm s m args below meth c H locs ls C hR hL hl
  have hlen : len < 1000 := by have := zsh_small a; rw [hs] at this; exact this
  show W _ _ _ _ _ _ _ _ _ _ _ _ _ _ _ (F0 m pc ls (.int (nI j) :: .ref (zad g a) :: st.map (zrv g)))
  rw [zad_lt hs (by decide)]
  refine W.sald C.1 C.2.1 (zcell_a (hR.2.1 a ha) hs (by decide)) ((C.2.2.2.2.2.2.2.2.1.1.2 3 _ rfl).1 len _) (fun q => by cases q) (by show ¬ (_ ∨ (arrV _ _ _).slots.size ≤ _); rw [arrV_size]; exact zin hj (by omega)) (v := .int (I a j)) ?_ rfl rfl hd (kk p e Rm s m args below meth c H locs ls C hR hL hl)
  rw [nI_clamp (by omega), arrV_read _ _ hj]
  rfl
theorem zAaldII {len a j b : Nat} {i : Int32} (hd : decode (zmc M) pc = .ok (.aaload, 1)) (hs : zsh a = (24, len)) (ha : a < n) (hi : i = nI j) (hj : j < len) (hr : R a j = some b) (hq : q = pc + 1) (kk : zAW g l d n0 n1 M (I, L, R, n) q lv (.ref b :: st) Q) : zAW g l d n0 n1 M (I, L, R, n) pc lv (.int i :: .ref a :: st) Q := by
  subst hq
  subst hi
  intro p e Rm s m args below meth c H locs ls C hR hL hl
  have hlen : len < 1000 := by have := zsh_small a; rw [hs] at this; exact this
  show W _ _ _ _ _ _ _ _ _ _ _ _ _ _ _ (F0 m pc ls (.int (nI j) :: .ref (zad g a) :: st.map (zrv g)))
  rw [zad_lt hs (by decide)]
  refine W.aald (ty := .array .int) C.1 C.2.1 (zcell_a (hR.2.1 a ha) hs (by decide)) ((C.2.2.2.2.2.2.2.2.1.1.2 4 _ rfl).1 len _) rfl (fun q => by cases q) (by show ¬ (_ ∨ (arrV _ _ _).slots.size ≤ _); rw [arrV_size]; exact zin hj (by omega)) (v := .ref (zad g b)) ?_ rfl rfl hd (kk p e Rm s m args below meth c H locs ls C hR hL hl)
  rw [nI_clamp (by omega), arrV_read _ _ hj]
  show some (va_rf ((R a j).map (zad g))) = _
  rw [hr]; rfl
theorem zAaldSh {len a j b : Nat} {i : Int32} (hd : decode (zmc M) pc = .ok (.aaload, 1)) (hs : zsh a = (25, len)) (ha : a < n) (hi : i = nI j) (hj : j < len) (hr : R a j = some b) (hq : q = pc + 1) (kk : zAW g l d n0 n1 M (I, L, R, n) q lv (.ref b :: st) Q) : zAW g l d n0 n1 M (I, L, R, n) pc lv (.int i :: .ref a :: st) Q := by
  subst hq
  subst hi
  intro p e Rm s m args below meth c H locs ls C hR hL hl
  have hlen : len < 1000 := by have := zsh_small a; rw [hs] at this; exact this
  show W _ _ _ _ _ _ _ _ _ _ _ _ _ _ _ (F0 m pc ls (.int (nI j) :: .ref (zad g a) :: st.map (zrv g)))
  rw [zad_lt hs (by decide)]
  refine W.aald (ty := .object RX8) C.1 C.2.1 (zcell_a (hR.2.1 a ha) hs (by decide)) ((C.2.2.2.2.2.2.2.2.1.1.2 5 _ rfl).1 len _) rfl (fun q => by cases q) (by show ¬ (_ ∨ (arrV _ _ _).slots.size ≤ _); rw [arrV_size]; exact zin hj (by omega)) (v := .ref (zad g b)) ?_ rfl rfl hd (kk p e Rm s m args below meth c H locs ls C hR hL hl)
  rw [nI_clamp (by omega), arrV_read _ _ hj]
  show some (va_rf ((R a j).map (zad g))) = _
  rw [hr]; rfl
theorem zIast {len a j : Nat} {i : Int32} {x : Int32} (hd : decode (zmc M) pc = .ok (.iastore, 1)) (hs : zsh a = (20, len)) (ha : a < n) (hi : i = nI j) (hj : j < len) (hq : q = pc + 1) (kk : zAW g l d n0 n1 M (zup I a (zup (I a) j x), L, R, n) q lv st Q) : zAW g l d n0 n1 M (I, L, R, n) pc lv (.int x :: .int i :: .ref a :: st) Q := by
  subst hq
  subst hi
  intro p e Rm s m args below meth c H locs ls C hR hL hl
  have hlen : len < 1000 := by have := zsh_small a; rw [hs] at this; exact this
  show W _ _ _ _ _ _ _ _ _ _ _ _ _ _ _ (F0 m pc ls (.int x :: .int (nI j) :: .ref (zad g a) :: st.map (zrv g)))
  rw [zad_lt hs (by decide)]
  refine W.iast C.1 C.2.1 (zcell_a (hR.2.1 a ha) hs (by decide)) ((C.2.2.2.2.2.2.2.2.1.1.2 0 _ rfl).1 len _) (fun q => by cases q) (by show ¬ (_ ∨ (arrV _ _ _).slots.size ≤ _); rw [arrV_size]; exact zin hj (by omega)) rfl rfl hd fun H' e1 e2 e3 => ?_
  rw [nI_clamp (by omega)] at e1 ⊢
  refine kk p e Rm s m args below meth c H' _ ls C (zRep_upI hR ha e2 e3 (zcell_ai hs (by decide) (e1.trans (congrArg some (zarr_st (fun j => zel_upi (by decide) (by decide) j)))))) (fun z hz => ?_) hl
  rcases List.mem_append.mp hz with hz | hz
  · exact hL z hz
  · rw [List.mem_singleton.mp hz]; exact Nat.le_add_right _ _
theorem zLast {len a j : Nat} {i : Int32} {x : Int64} (hd : decode (zmc M) pc = .ok (.lastore, 1)) (hs : zsh a = (21, len)) (ha : a < n) (hi : i = nI j) (hj : j < len) (hq : q = pc + 1) (kk : zAW g l d n0 n1 M (I, zup L a (zup (L a) j x), R, n) q lv st Q) : zAW g l d n0 n1 M (I, L, R, n) pc lv (.long x :: .int i :: .ref a :: st) Q := by
  subst hq
  subst hi
  intro p e Rm s m args below meth c H locs ls C hR hL hl
  have hlen : len < 1000 := by have := zsh_small a; rw [hs] at this; exact this
  show W _ _ _ _ _ _ _ _ _ _ _ _ _ _ _ (F0 m pc ls (.long x :: .int (nI j) :: .ref (zad g a) :: st.map (zrv g)))
  rw [zad_lt hs (by decide)]
  refine W.last C.1 C.2.1 (zcell_a (hR.2.1 a ha) hs (by decide)) ((C.2.2.2.2.2.2.2.2.1.1.2 1 _ rfl).1 len _) (fun q => by cases q) (by show ¬ (_ ∨ (arrV _ _ _).slots.size ≤ _); rw [arrV_size]; exact zin hj (by omega)) rfl rfl hd fun H' e1 e2 e3 => ?_
  rw [nI_clamp (by omega)] at e1 ⊢
  refine kk p e Rm s m args below meth c H' _ ls C (zRep_upL hR ha e2 e3 (zcell_ai hs (by decide) (e1.trans (congrArg some (zarr_st (fun j => zel_upl j)))))) (fun z hz => ?_) hl
  rcases List.mem_append.mp hz with hz | hz
  · exact hL z hz
  · rw [List.mem_singleton.mp hz]; exact Nat.le_add_right _ _
theorem zBast {len a j : Nat} {i : Int32} {x : Int32} (hd : decode (zmc M) pc = .ok (.bastore, 1)) (hs : zsh a = (22, len)) (ha : a < n) (hi : i = nI j) (hj : j < len) (hq : q = pc + 1) (kk : zAW g l d n0 n1 M (zup I a (zup (I a) j x.toInt8.toInt32), L, R, n) q lv st Q) : zAW g l d n0 n1 M (I, L, R, n) pc lv (.int x :: .int i :: .ref a :: st) Q := by
  subst hq
  subst hi
  intro p e Rm s m args below meth c H locs ls C hR hL hl
  have hlen : len < 1000 := by have := zsh_small a; rw [hs] at this; exact this
  show W _ _ _ _ _ _ _ _ _ _ _ _ _ _ _ (F0 m pc ls (.int x :: .int (nI j) :: .ref (zad g a) :: st.map (zrv g)))
  rw [zad_lt hs (by decide)]
  refine W.bast C.1 C.2.1 (zcell_a (hR.2.1 a ha) hs (by decide)) ((C.2.2.2.2.2.2.2.2.1.1.2 2 _ rfl).1 len _) (fun q => by cases q) (by show ¬ (_ ∨ (arrV _ _ _).slots.size ≤ _); rw [arrV_size]; exact zin hj (by omega)) rfl rfl hd fun H' e1 e2 e3 => ?_
  rw [nI_clamp (by omega)] at e1 ⊢
  refine kk p e Rm s m args below meth c H' _ ls C (zRep_upI hR ha e2 e3 (zcell_ai hs (by decide) (e1.trans (congrArg some (zarr_st (fun j => zel_upi (by decide) (by decide) j)))))) (fun z hz => ?_) hl
  rcases List.mem_append.mp hz with hz | hz
  · exact hL z hz
  · rw [List.mem_singleton.mp hz]; exact Nat.le_add_right _ _
theorem zSast {len a j : Nat} {i : Int32} {x : Int32} (hd : decode (zmc M) pc = .ok (.sastore, 1)) (hs : zsh a = (23, len)) (ha : a < n) (hi : i = nI j) (hj : j < len) (hq : q = pc + 1) (kk : zAW g l d n0 n1 M (zup I a (zup (I a) j x.toInt16.toInt32), L, R, n) q lv st Q) : zAW g l d n0 n1 M (I, L, R, n) pc lv (.int x :: .int i :: .ref a :: st) Q := by
  subst hq
  subst hi
  intro p e Rm s m args below meth c H locs ls C hR hL hl
  have hlen : len < 1000 := by have := zsh_small a; rw [hs] at this; exact this
  show W _ _ _ _ _ _ _ _ _ _ _ _ _ _ _ (F0 m pc ls (.int x :: .int (nI j) :: .ref (zad g a) :: st.map (zrv g)))
  rw [zad_lt hs (by decide)]
  refine W.sast C.1 C.2.1 (zcell_a (hR.2.1 a ha) hs (by decide)) ((C.2.2.2.2.2.2.2.2.1.1.2 3 _ rfl).1 len _) (fun q => by cases q) (by show ¬ (_ ∨ (arrV _ _ _).slots.size ≤ _); rw [arrV_size]; exact zin hj (by omega)) rfl rfl hd fun H' e1 e2 e3 => ?_
  rw [nI_clamp (by omega)] at e1 ⊢
  refine kk p e Rm s m args below meth c H' _ ls C (zRep_upI hR ha e2 e3 (zcell_ai hs (by decide) (e1.trans (congrArg some (zarr_st (fun j => zel_upi (by decide) (by decide) j)))))) (fun z hz => ?_) hl
  rcases List.mem_append.mp hz with hz | hz
  · exact hL z hz
  · rw [List.mem_singleton.mp hz]; exact Nat.le_add_right _ _
theorem zGetS0 {idx : Nat} (hd : decode (zmc M) pc = .ok (.getstatic idx, 3)) (hf : Cond.fieldLink (zmo M) idx RX9 "LEAST" "[I" ∈ zWT) (hq : q = pc + 3) (kk : zAW g l d n0 n1 M w q lv (.ref 1000 :: st) Q) : zAW g l d n0 n1 M w pc lv st Q := by
  subst hq
  intro p e Rm s m args below meth c H locs ls C hR hL hl
  obtain ⟨cf, kf, fi, f, a, cell, h1, h2, h3, h4, h5, h6, h7, h8⟩ := C.2.2.2.2.2.2.2.2.1.2.2.2.2.1.1
  exact W.gets C.1 C.2.1 C.2.2.2.2.2.2.1 (C.2.2.2.2.2.2.2.1 _ hf) h1 h2 h3 h4 (by rw [hR.2.2 a (Nat.not_le.mp h8)]; exact h5) (fun e => by rw [e] at h6; cases h6) h7 rfl hd (kk p e Rm s m args below meth c H locs ls C hR hL hl)
theorem zSi0 {k : Nat} {i : Int32} (hd : decode (zmc M) pc = .ok (.iaload, 1)) (hi : i = nI k) (hk : k < 12) (hq : q = pc + 1) (kk : zAW g l d n0 n1 M w q lv (.int (zstv 0 k) :: st) Q) : zAW g l d n0 n1 M w pc lv (.int i :: .ref 1000 :: st) Q := by
  subst hq
  subst hi
  intro p e Rm s m args below meth c H locs ls C hR hL hl
  obtain ⟨cell, h1, h2, h3, h4, h5, h6, h7⟩ := C.2.2.2.2.2.2.2.2.1.2.2.2.2.2.1.1
  refine W.iald (v := .int (zstv 0 k)) C.1 C.2.1 (a := zgS g 0) (by rw [hR.2.2 _ (Nat.not_le.mp h7)]; exact h1) h2 h3 (fun z => ?_) ?_ rfl rfl hd (kk p e Rm s m args below meth c H locs ls C hR hL hl)
  · have := zin hk (by decide)
    rcases z with z | z
    · exact this (Or.inl z)
    · exact this (Or.inr (Nat.le_trans h4 z))
  · rw [nI_clamp (by omega)]; exact h6 k hk
theorem zGetS1 {idx : Nat} (hd : decode (zmc M) pc = .ok (.getstatic idx, 3)) (hf : Cond.fieldLink (zmo M) idx RX9 "MOST" "[I" ∈ zWT) (hq : q = pc + 3) (kk : zAW g l d n0 n1 M w q lv (.ref 1001 :: st) Q) : zAW g l d n0 n1 M w pc lv st Q := by
  subst hq
  intro p e Rm s m args below meth c H locs ls C hR hL hl
  obtain ⟨cf, kf, fi, f, a, cell, h1, h2, h3, h4, h5, h6, h7, h8⟩ := C.2.2.2.2.2.2.2.2.1.2.2.2.2.1.2.1
  exact W.gets C.1 C.2.1 C.2.2.2.2.2.2.1 (C.2.2.2.2.2.2.2.1 _ hf) h1 h2 h3 h4 (by rw [hR.2.2 a (Nat.not_le.mp h8)]; exact h5) (fun e => by rw [e] at h6; cases h6) h7 rfl hd (kk p e Rm s m args below meth c H locs ls C hR hL hl)
theorem zSi1 {k : Nat} {i : Int32} (hd : decode (zmc M) pc = .ok (.iaload, 1)) (hi : i = nI k) (hk : k < 12) (hq : q = pc + 1) (kk : zAW g l d n0 n1 M w q lv (.int (zstv 1 k) :: st) Q) : zAW g l d n0 n1 M w pc lv (.int i :: .ref 1001 :: st) Q := by
  subst hq
  subst hi
  intro p e Rm s m args below meth c H locs ls C hR hL hl
  obtain ⟨cell, h1, h2, h3, h4, h5, h6, h7⟩ := C.2.2.2.2.2.2.2.2.1.2.2.2.2.2.1.2.1
  refine W.iald (v := .int (zstv 1 k)) C.1 C.2.1 (a := zgS g 1) (by rw [hR.2.2 _ (Nat.not_le.mp h7)]; exact h1) h2 h3 (fun z => ?_) ?_ rfl rfl hd (kk p e Rm s m args below meth c H locs ls C hR hL hl)
  · have := zin hk (by decide)
    rcases z with z | z
    · exact this (Or.inl z)
    · exact this (Or.inr (Nat.le_trans h4 z))
  · rw [nI_clamp (by omega)]; exact h6 k hk
theorem zGetS2 {idx : Nat} (hd : decode (zmc M) pc = .ok (.getstatic idx, 3)) (hf : Cond.fieldLink (zmo M) idx RX0 "ABOVE" "[I" ∈ zWT) (hq : q = pc + 3) (kk : zAW g l d n0 n1 M w q lv (.ref 1002 :: st) Q) : zAW g l d n0 n1 M w pc lv st Q := by
  subst hq
  intro p e Rm s m args below meth c H locs ls C hR hL hl
  obtain ⟨cf, kf, fi, f, a, cell, h1, h2, h3, h4, h5, h6, h7, h8⟩ := C.2.2.2.2.2.2.2.2.1.2.2.2.2.1.2.2.1
  exact W.gets C.1 C.2.1 C.2.2.2.2.2.2.1 (C.2.2.2.2.2.2.2.1 _ hf) h1 h2 h3 h4 (by rw [hR.2.2 a (Nat.not_le.mp h8)]; exact h5) (fun e => by rw [e] at h6; cases h6) h7 rfl hd (kk p e Rm s m args below meth c H locs ls C hR hL hl)
theorem zSi2 {k : Nat} {i : Int32} (hd : decode (zmc M) pc = .ok (.iaload, 1)) (hi : i = nI k) (hk : k < 8) (hq : q = pc + 1) (kk : zAW g l d n0 n1 M w q lv (.int (zstv 2 k) :: st) Q) : zAW g l d n0 n1 M w pc lv (.int i :: .ref 1002 :: st) Q := by
  subst hq
  subst hi
  intro p e Rm s m args below meth c H locs ls C hR hL hl
  obtain ⟨cell, h1, h2, h3, h4, h5, h6, h7⟩ := C.2.2.2.2.2.2.2.2.1.2.2.2.2.2.1.2.2.1
  refine W.iald (v := .int (zstv 2 k)) C.1 C.2.1 (a := zgS g 2) (by rw [hR.2.2 _ (Nat.not_le.mp h7)]; exact h1) h2 h3 (fun z => ?_) ?_ rfl rfl hd (kk p e Rm s m args below meth c H locs ls C hR hL hl)
  · have := zin hk (by decide)
    rcases z with z | z
    · exact this (Or.inl z)
    · exact this (Or.inr (Nat.le_trans h4 z))
  · rw [nI_clamp (by omega)]; exact h6 k hk
theorem zGetS3 {idx : Nat} (hd : decode (zmc M) pc = .ok (.getstatic idx, 3)) (hf : Cond.fieldLink (zmo M) idx RX0 "OWN" "[I" ∈ zWT) (hq : q = pc + 3) (kk : zAW g l d n0 n1 M w q lv (.ref 1003 :: st) Q) : zAW g l d n0 n1 M w pc lv st Q := by
  subst hq
  intro p e Rm s m args below meth c H locs ls C hR hL hl
  obtain ⟨cf, kf, fi, f, a, cell, h1, h2, h3, h4, h5, h6, h7, h8⟩ := C.2.2.2.2.2.2.2.2.1.2.2.2.2.1.2.2.2
  exact W.gets C.1 C.2.1 C.2.2.2.2.2.2.1 (C.2.2.2.2.2.2.2.1 _ hf) h1 h2 h3 h4 (by rw [hR.2.2 a (Nat.not_le.mp h8)]; exact h5) (fun e => by rw [e] at h6; cases h6) h7 rfl hd (kk p e Rm s m args below meth c H locs ls C hR hL hl)
theorem zSi3 {k : Nat} {i : Int32} (hd : decode (zmc M) pc = .ok (.iaload, 1)) (hi : i = nI k) (hk : k < 32) (hq : q = pc + 1) (kk : zAW g l d n0 n1 M w q lv (.int (zstv 3 k) :: st) Q) : zAW g l d n0 n1 M w pc lv (.int i :: .ref 1003 :: st) Q := by
  subst hq
  subst hi
  intro p e Rm s m args below meth c H locs ls C hR hL hl
  obtain ⟨cell, h1, h2, h3, h4, h5, h6, h7⟩ := C.2.2.2.2.2.2.2.2.1.2.2.2.2.2.1.2.2.2
  refine W.iald (v := .int (zstv 3 k)) C.1 C.2.1 (a := zgS g 3) (by rw [hR.2.2 _ (Nat.not_le.mp h7)]; exact h1) h2 h3 (fun z => ?_) ?_ rfl rfl hd (kk p e Rm s m args below meth c H locs ls C hR hL hl)
  · have := zin hk (by decide)
    rcases z with z | z
    · exact this (Or.inl z)
    · exact this (Or.inr (Nat.le_trans h4 z))
  · rw [nI_clamp (by omega)]; exact h6 k hk
theorem zSlen (hd : decode (zmc M) pc = .ok (.arraylength, 1)) (hq : q = pc + 1) (kk : zAW g l d n0 n1 M w q lv (.int (nI (zgL g)) :: st) Q) : zAW g l d n0 n1 M w pc lv (.ref 1004 :: st) Q := by
  subst hq
  intro p e Rm s m args below meth c H locs ls C hR hL hl
  obtain ⟨scr, h1, h2, h3, h4, h5⟩ := C.2.2.2.2.2.2.2.2.1.2.2.2.2.2.2.1
  have hlt := C.2.2.2.2.2.2.2.2.1.2.2.2.2.2.2.2
  exact W.alen (n := nI (zgL g)) C.1 C.2.1 (a := zgS g 4) (by rw [hR.2.2 _ hlt]; exact h1) h2 (by rw [h4] <;> rfl) rfl rfl hd (kk p e Rm s m args below meth c H locs ls C hR hL hl)
theorem zSld {j : Nat} {i : Int32} (hd : decode (zmc M) pc = .ok (.iaload, 1)) (hi : i = nI j) (hj : j < zgL g) (hlen : zgL g < 2 ^ 31) (hq : q = pc + 1) (kk : zAW g l d n0 n1 M w q lv (.int (zgX g j) :: st) Q) : zAW g l d n0 n1 M w pc lv (.int i :: .ref 1004 :: st) Q := by
  subst hq
  subst hi
  intro p e Rm s m args below meth c H locs ls C hR hL hl
  obtain ⟨scr, h1, h2, h3, h4, h5⟩ := C.2.2.2.2.2.2.2.2.1.2.2.2.2.2.2.1
  have hlt := C.2.2.2.2.2.2.2.2.1.2.2.2.2.2.2.2
  exact W.iald (v := .int (zgX g j)) C.1 C.2.1 (a := zgS g 4) (by rw [hR.2.2 _ hlt]; exact h1) h2 h3 (by rw [h4]; exact zin hj hlen) (by rw [nI_clamp (by omega)]; exact h5 j hj) rfl rfl hd (kk p e Rm s m args below meth c H locs ls C hR hL hl)
theorem zIret {v : Int32} {ty : FieldType} (hd : decode (zmc M) pc = .ok (.ireturn, 1)) (hr : zmr M = some ty) (hn : narrow ty (.int v) = .int v) (hw : w.2.2.2 = n1) (hQ : Q (some (.int v)) w) : zAW g l d n0 n1 M w pc lv [.int v] Q := by
  intro p e Rm s m args below meth c H locs ls C hR hL hl
  have hlk := C.2.2.2.2.1
  subst hw
  exact W.zret C.1 C.2.1 (C.2.2.2.1.trans hr) hn (fun t ht _ => ⟨some (.int v), w, rfl, rfl, hQ, by rw [ht]; exact hR⟩) hL hd hlk
theorem zLret {v : Int64} (hd : decode (zmc M) pc = .ok (.lreturn, 1)) (hr : zmr M = some .long) (hw : w.2.2.2 = n1) (hQ : Q (some (.long v)) w) : zAW g l d n0 n1 M w pc lv [.long v] Q := by
  intro p e Rm s m args below meth c H locs ls C hR hL hl
  have hlk := C.2.2.2.2.1
  subst hw
  exact W.lret C.1 C.2.1 (C.2.2.2.1.trans hr) (fun t ht _ => ⟨some (.long v), w, rfl, rfl, hQ, by rw [ht]; exact hR⟩) hL hd hlk
theorem zVret (hd : decode (zmc M) pc = .ok (.return_, 1)) (hr : zmr M = none) (hw : w.2.2.2 = n1) (hQ : Q none w) : zAW g l d n0 n1 M w pc lv [] Q := by
  intro p e Rm s m args below meth c H locs ls C hR hL hl
  have hlk := C.2.2.2.2.1
  subst hw
  exact W.vret C.1 C.2.1 (C.2.2.2.1.trans hr) (fun t ht _ => ⟨none, w, rfl, rfl, hQ, by rw [ht]; exact hR⟩) hL hd hlk
theorem zAret {v : Value} {rt : FieldType} (hd : decode (zmc M) pc = .ok (.areturn, 1)) (hr : zmr M = some rt) (hrt : (∃ n, rt = .object n) ∨ ∃ t, rt = .array t) (hv : v = .null ∨ ∃ a, v = .ref a) (hw : w.2.2.2 = n1) (hQ : Q (some v) w) : zAW g l d n0 n1 M w pc lv [v] Q := by
  intro p e Rm s m args below meth c H locs ls C hR hL hl
  have hlk := C.2.2.2.2.1
  subst hw
  exact W.aret C.1 C.2.1 (C.2.2.2.1.trans hr) hrt (v := zrv g v) (by rcases hv with rfl | ⟨a, rfl⟩; exact Or.inl rfl; exact Or.inr ⟨_, rfl⟩) (fun t ht _ => ⟨some v, w, rfl, rfl, hQ, by rw [ht]; exact hR⟩) hL hd hlk
theorem zTabAt {dflt lo hi : Int} {offs : Array Int} {ln : Nat} {x v : Int32} {off : Int} (hx : x = v) (hd : decode (zmc M) pc = .ok (.tableswitch dflt lo hi offs, ln)) (h1 : ¬ v.toInt < lo) (h2 : ¬ hi < v.toInt) (ho : offs[(v.toInt - lo).toNat]? = some off) (ht : (pc : Int) + off = (q : Int)) (k : zAW g l d n0 n1 M w q lv st Q) : zAW g l d n0 n1 M w pc lv (.int x :: st) Q := by
  subst hx
  intro p e R s m args below meth c H locs ls C hR hL hl
  exact lv_tableIn C.1 C.2.1 hd h1 h2 ho ht (k p e R s m args below meth c H locs ls C hR hL hl)
theorem zTabOut {dflt lo hi : Int} {offs : Array Int} {ln : Nat} {x : Int32} (hd : decode (zmc M) pc = .ok (.tableswitch dflt lo hi offs, ln)) (h : x.toInt < lo ∨ hi < x.toInt) (ht : (pc : Int) + dflt = (q : Int)) (k : zAW g l d n0 n1 M w q lv st Q) : zAW g l d n0 n1 M w pc lv (.int x :: st) Q := by
  intro p e R s m args below meth c H locs ls C hR hL hl
  exact lv_tableOut C.1 C.2.1 hd h ht (k p e R s m args below meth c H locs ls C hR hL hl)
theorem zLook {dflt : Int} {ps : Array (Int × Int)} {ln : Nat} {x : Int32} {off : Int} (hd : decode (zmc M) pc = .ok (.lookupswitch dflt ps, ln)) (hp : (ps.toList.zip (ps.toList.drop 1)).all (fun (a, next) => a.1 < next.1) = true) (ho : Op.lookupswitch.offset ps.toList dflt x.toInt = off) (ht : (pc : Int) + off = (q : Int)) (k : zAW g l d n0 n1 M w q lv st Q) : zAW g l d n0 n1 M w pc lv (.int x :: st) Q := by
  intro p e R s m args below meth c H locs ls C hR hL hl
  exact lv_lookup C.1 C.2.1 hd hp ho ht (k p e R s m args below meth c H locs ls C hR hL hl)
/-- fewer locals, in any order -/
theorem zSub {lv' : List (Nat × Value)} (ks : List Nat) (h : lv_pick lv ks = lv') (k : zAW g l d n0 n1 M w pc lv' st Q) : zAW g l d n0 n1 M w pc lv st Q := by
  intro p e R s m args below meth c H locs ls C hR hL hl
  refine k p e R s m args below meth c H locs ls C hR hL (lv_sub hl ks ?_)
  subst h
  unfold lv_pick zlv
  rw [List.map_filterMap]
  congr 1
  funext i
  rw [List.getElem?_map]
theorem zMono {Q' : Option Value → zW → Prop} (h : ∀ v w, Q' v w → Q v w) (k : zAW g l d n0 n1 M w pc lv st Q') : zAW g l d n0 n1 M w pc lv st Q := by
  intro p e R s m args below meth c H locs ls C hR hL hl T hT X
  obtain ⟨t, a, o, b1, b2, b3, b4⟩ := k p e R s m args below meth c H locs ls C hR hL hl T hT X
  obtain ⟨v, w', c1, c2, c3, c4⟩ := b3
  exact ⟨t, a, o, b1, b2, ⟨v, w', c1, c2, h _ _ c3, c4⟩, b4⟩
end ZF
end
section
section ZC
variable {g : zG} {l : Launch} {d n0 n1 : Nat} {M : zM} {w : zW} {I : Nat → Nat → Int32} {L : Nat → Nat → Int64} {R : Nat → Nat → Option Nat} {n pc q : Nat} {lv : List (Nat × Value)} {st : List Value} {Q : Option Value → zW → Prop}
theorem zPc_blind {av : List Value} : FrameBlind (va_Pc (av.map (zrv g)) (fun U => zRep g w U.heap ∧ zSt g U)) := fun a U gf mk h => ⟨h.1, h.2.1, zSt_same (u := U) (U := U.calling gf mk a) rfl h.2.2⟩
/-- behind a call's run -/
theorem zAfter {p : Program} {e : Env} {Rm : Room} {s : State} {m : MethodId} {args : Array Value} {below : List Frame} {meth : Method} {c : Code} {H : Heap} {locs : List Loc} {ls : Array Slot} {st0 rest : List Value} {a : Array Value} {n2 : Nat} {Q' : Option Value → zW → Prop}
    (C : zCtx g d n0 n1 M p Rm s m args meth c) (hL : ∀ q ∈ locs, zgB g ≤ q.base) (hl : lv_has ls (zmn M) (zlv g lv)) (h0 : n0 ≤ w.2.2.2) (h1 : w.2.2.2 ≤ n2)
    (hr : va_Run p l e Rm s m args below meth c H locs (w.2.2.2 - n0) (zS w.2.2.2 - zS n0) (n2 - w.2.2.2) (zS n2 - zS w.2.2.2) (F0 m pc ls st0) (rest.map (zrv g)) (zQc g n2 Q' a) (fun q => zgB g ≤ q))
    (kk : ∀ (v : Option Value) (w' : zW), w'.2.2.2 = n2 → Q' v w' → zAW g l d n0 n1 M w' (pc + 3) lv (v.toList ++ rest) Q) :
    W p l e Rm s m args below meth c H locs (w.2.2.2 - n0) (zS w.2.2.2 - zS n0) (MQ below (zQc g n1 Q) args s (n1 - n0) (zS n1 - zS n0) (fun q => zgB g ≤ q)) (F0 m pc ls st0) := by
  intro T hT X
  obtain ⟨v, st₀, t, T', L, e0, X', hL', e1, e2, ⟨v', w', hv, hn, hQ, hR'⟩, st⟩ := hr T hT X
  cases hv
  have hz1 := zS_le h0
  have hz2 := zS_le h1
  have X2 : Stand p l e Rm s m args below meth c T' (locs ++ L) (w'.2.2.2 - n0) (zS w'.2.2.2 - zS n0) := by
    rw [hn]
    have ec : n2 - n0 = (w.2.2.2 - n0) + (n2 - w.2.2.2) := by omega
    have es : zS n2 - zS n0 = (zS w.2.2.2 - zS n0) + (zS n2 - zS w.2.2.2) := by omega
    rw [ec, es]
    exact X'
  obtain ⟨t2, a1, b1⟩ := kk v' w' hn hQ p e Rm s m args below meth c T'.heap (locs ++ L) ls C (by rw [e1]; exact hR') (fun q hq => by
      rcases List.mem_append.mp hq with h | h
      · exact hL q h
      · exact hL' q h) hl T' rfl X2
  refine ⟨t2, st t2 ?_, b1⟩
  have el : (v'.map (zrv g)).toList ++ rest.map (zrv g) = (v'.toList ++ rest).map (zrv g) := by cases v' <;> simp
  rw [el]
  exact a1
def zNs (n0 n n2 n1 : Nat) : Prop := n0 ≤ n ∧ n ≤ n2 ∧ n2 ≤ n1
theorem zroom {Rm : Room} {a b c e : Nat} (h : a ≤ b ∧ b ≤ c ∧ c ≤ e) (hc : e - a ≤ Rm.cells) (hs : zS e - zS a ≤ Rm.slots) : (b - a) + (c - b) ≤ Rm.cells ∧ (zS b - zS a) + (zS c - zS b) ≤ Rm.slots := by
  have h1 := zS_le h.1
  have h2 := zS_le h.2.1
  have h3 := zS_le h.2.2
  omega
theorem zCallV {M' : zM} {idx d' n2 kd len a ar : Nat} {As rest : List Value} {Q' : Option Value → zW → Prop} (hd : decode (zmc M) pc = .ok (.invokevirtual idx, 3)) (hl0 : Cond.methodLink (zmo M) idx (zmy M') ∈ zWT) (hk : zMk M' ar) (hi : Cond.instanceMethod (zmy M') ∈ zWT) (hsl : Cond.selects (zmy M').cls (zmy M') (zmy M') ∈ zWT)
    (hS : zSp g l d' n2 M' (.ref a :: As) (I, L, R, n) Q') (hst : st = As.reverse ++ .ref a :: rest) (har : As.length = ar) (hs : zsh a = (kd, len)) (hkd : kd < 13) (hcl : zcR kd = zmo M') (ha : a < n) (hcat : (rest.map fun v => v.category).sum ≤ 8) (hml : zmn M' ≤ 45) (hd' : d' + 1 ≤ d) (hn : zNs n0 n n2 n1) (hq : q = pc + 3)
    (kk : ∀ (v : Option Value) (w' : zW), w'.2.2.2 = n2 → Q' v w' → zAW g l d n0 n1 M w' q lv (v.toList ++ rest) Q) : zAW g l d n0 n1 M (I, L, R, n) pc lv st Q := by
  subst hq
  subst hst
  intro p e Rm s m args below meth c H locs ls C hR hL hl
  obtain ⟨hx, hb, hml', -, -, -, hown, hts, hSt, ⟨hfr, hlo⟩, hce, hsl2⟩ := id C
  obtain ⟨kc, ki, kp, kn, kpar, ko⟩ := hk
  have hgood : GoodIn zWT (wsV (zmo M) idx (zmy M').cls (zmy M') (.code (zmy M') (zmc M') (zmn M') (zmr M') :: zWT)) := zGood (fun w hw => by
    unfold wsV at hw
    rcases List.mem_append.mp hw with h | h
    · rcases List.mem_cons.mp h with rfl | h
      · exact hl0
      rcases List.mem_cons.mp h with rfl | h
      · exact hi
      rcases List.mem_cons.mp h with rfl | h
      · exact hsl
      rcases List.mem_cons.mp h with rfl | h
      · exact ki
      · cases h
    · rcases List.mem_cons.mp h with rfl | h
      · exact kc
      · exact h)
  have hroom := zroom hn hce hsl2
  refine zAfter (w := (I, L, R, n)) C hL hl hn.1 hn.2.1 (va_runV (Ts := zWT) (own := zmo M) (C := (zmy M').cls) (n := ar) (rest := rest.map (zrv g)) ⟨hx, hb, hml', hown, hts⟩ hS (cwV ar hts hgood rfl rfl rfl ⟨rfl, kn.1, kn.2, kpar⟩ ⟨Nat.le_trans hd' hfr, Nat.le_trans (by show 8 + (zmn M' + 11) + 64 * d' ≤ 64 * d; omega) hlo⟩) ⟨zPc_blind, ?_, fun U hU hW => ⟨rfl, by rw [hU]; exact hR, zSt_warm hW hSt⟩⟩ rfl (by rw [List.length_map]; exact har) hl.1 ?_ (lv_room ?_) hd hroom) kk
  · obtain ⟨cell, q1, q2, q3, -⟩ := zcell_o (hR.2.1 a ha) hs hkd
    refine ⟨cell, by show H[zad g a]? = _; rw [zad_lt hs (Nat.lt_trans hkd (by decide))]; exact q1, by rw [q3]; rfl, ?_⟩
    rw [q2, ← ko, ← hcl]
    exact (hSt.1.1 kd _ (zc_at hkd)).2.1
  · show (As.reverse ++ .ref a :: rest).map (zrv g) = _
    rw [List.map_append, List.map_reverse]
    rfl
  · have e : ((rest.map (zrv g)).map fun v => v.category) = rest.map fun v => v.category := by rw [List.map_map]; exact List.map_congr_left (fun v _ => zrv_cat g v)
    rw [e]; exact hcat
theorem zCallS {M' : zM} {idx d' n2 ar : Nat} {As rest : List Value} {Q' : Option Value → zW → Prop} (hd : decode (zmc M) pc = .ok (.invokestatic idx, 3)) (hl0 : Cond.methodLink (zmo M) idx (zmy M') ∈ zWT) (hk : zMk M' ar) (hstc : Cond.static (zmy M') ∈ zWT)
    (hS : zSp g l d' n2 M' As (I, L, R, n) Q') (hst : st = As.reverse ++ rest) (har : As.length = ar) (hcat : (rest.map fun v => v.category).sum ≤ 8) (hml : zmn M' ≤ 45) (hd' : d' + 1 ≤ d) (hn : zNs n0 n n2 n1) (hq : q = pc + 3)
    (kk : ∀ (v : Option Value) (w' : zW), w'.2.2.2 = n2 → Q' v w' → zAW g l d n0 n1 M w' q lv (v.toList ++ rest) Q) : zAW g l d n0 n1 M (I, L, R, n) pc lv st Q := by
  subst hq
  subst hst
  intro p e Rm s m args below meth c H locs ls C hR hL hl
  obtain ⟨hx, hb, hml', -, -, -, hown, hts, hSt, ⟨hfr, hlo⟩, hce, hsl2⟩ := id C
  obtain ⟨kc, ki, kp, kn, kpar, ko⟩ := hk
  have hgood : GoodIn zWT (va_wsS (zmo M) idx (zmy M') (.code (zmy M') (zmc M') (zmn M') (zmr M') :: zWT)) := zGood (fun w hw => by
    unfold va_wsS at hw
    rcases List.mem_append.mp hw with h | h
    · rcases List.mem_cons.mp h with rfl | h
      · exact hl0
      rcases List.mem_cons.mp h with rfl | h
      · exact hstc
      rcases List.mem_cons.mp h with rfl | h
      · exact ki
      · cases h
    · rcases List.mem_cons.mp h with rfl | h
      · exact kc
      · exact h)
  have hroom := zroom hn hce hsl2
  refine zAfter (w := (I, L, R, n)) C hL hl hn.1 hn.2.1 (va_runS (Ts := zWT) (own := zmo M) (n := ar) (rest := rest.map (zrv g)) ⟨hx, hb, hml', hown, hts⟩ hS (va_cwS ar hts hgood rfl rfl rfl ⟨kn.1, kn.2, kpar⟩ ⟨Nat.le_trans hd' hfr, Nat.le_trans (by show 8 + (zmn M' + 11) + 64 * d' ≤ 64 * d; omega) hlo⟩) ⟨zPc_blind, fun U hU hW => ⟨rfl, by rw [hU]; exact hR, zSt_warm hW hSt⟩⟩ rfl (by rw [List.length_map]; exact har) hl.1 ?_ (lv_room ?_) hd hroom) kk
  · show (As.reverse ++ rest).map (zrv g) = _
    rw [List.map_append, List.map_reverse]
  · have e : ((rest.map (zrv g)).map fun v => v.category) = rest.map fun v => v.category := by rw [List.map_map]; exact List.map_congr_left (fun v _ => zrv_cat g v)
    rw [e]; exact hcat
theorem zCallI {M' : zM} {idx d' n2 a ar : Nat} {As rest : List Value} {Q' : Option Value → zW → Prop} (hd : decode (zmc M) pc = .ok (.invokespecial idx, 3)) (hl0 : Cond.methodLink (zmo M) idx (zmy M') ∈ zWT) (hk : zMk M' ar) (hi : Cond.instanceMethod (zmy M') ∈ zWT) (hin : (zmy M').name = "<init>") (hret : zmr M' = none)
    (hS : zSp g l d' n2 M' (.ref a :: As) (I, L, R, n) Q') (hst : st = As.reverse ++ .ref a :: rest) (har : As.length = ar) (hcat : (rest.map fun v => v.category).sum ≤ 8) (hml : zmn M' ≤ 45) (hd' : d' + 1 ≤ d) (hn : zNs n0 n n2 n1) (hq : q = pc + 3)
    (kk : ∀ (v : Option Value) (w' : zW), w'.2.2.2 = n2 → Q' v w' → zAW g l d n0 n1 M w' q lv (v.toList ++ rest) Q) : zAW g l d n0 n1 M (I, L, R, n) pc lv st Q := by
  subst hq
  subst hst
  intro p e Rm s m args below meth c H locs ls C hR hL hl
  obtain ⟨hx, hb, hml', -, -, -, hown, hts, hSt, ⟨hfr, hlo⟩, hce, hsl2⟩ := id C
  obtain ⟨kc, ki, kp, kn, kpar, ko⟩ := hk
  have hgood : GoodIn zWT (.code (zmy M') (zmc M') (zmn M') (zmr M') :: zWT) := zGood (fun w hw => by
    rcases List.mem_cons.mp hw with rfl | h
    · exact kc
    · exact h)
  have hroom := zroom hn hce hsl2
  refine zAfter (w := (I, L, R, n)) C hL hl hn.1 hn.2.1 (va_runI (Ts := zWT) (own := zmo M) (b := zad g a) (n := ar) (rest := rest.map (zrv g)) ⟨hx, hb, hml', hown, hts⟩ hS (cwI ar hts hgood (by rw [hret]) rfl rfl (hts _ ki) (hts _ hl0) (hts _ hi) hin ⟨kn.1, kn.2, kpar⟩ ⟨Nat.le_trans hd' hfr, Nat.le_trans (by show 8 + (zmn M' + 11) + 64 * d' ≤ 64 * d; omega) hlo⟩) ⟨zPc_blind, fun U hU hW => ⟨rfl, by rw [hU]; exact hR, zSt_warm hW hSt⟩⟩ rfl (by rw [List.length_map]; exact har) hl.1 ?_ (lv_room ?_) hd hroom) kk
  · show (As.reverse ++ .ref a :: rest).map (zrv g) = _
    rw [List.map_append, List.map_reverse]
    rfl
  · have e : ((rest.map (zrv g)).map fun v => v.category) = rest.map fun v => v.category := by rw [List.map_map]; exact List.map_congr_left (fun v _ => zrv_cat g v)
    rw [e]; exact hcat
theorem zCallN {M' : zM} {idx d' n2 a ar : Nat} {As rest : List Value} {Q' : Option Value → zW → Prop} (hd : decode (zmc M) pc = .ok (.invokespecial idx, 3)) (how : zmo M = RX11) (hl0 : (idx, zmy M') ∈ zNW) (hk : zMk M' ar) (hi : Cond.instanceMethod (zmy M') ∈ zWT) (hin : (zmy M').name = "<init>") (hret : zmr M' = none)
    (hS : zSp g l d' n2 M' (.ref a :: As) (I, L, R, n) Q') (hst : st = As.reverse ++ .ref a :: rest) (har : As.length = ar) (hcat : (rest.map fun v => v.category).sum ≤ 8) (hml : zmn M' ≤ 45) (hd' : d' + 1 ≤ d) (hn : zNs n0 n n2 n1) (hq : q = pc + 3)
    (kk : ∀ (v : Option Value) (w' : zW), w'.2.2.2 = n2 → Q' v w' → zAW g l d n0 n1 M w' q lv (v.toList ++ rest) Q) : zAW g l d n0 n1 M (I, L, R, n) pc lv st Q := by
  subst hq
  subst hst
  intro p e Rm s m args below meth c H locs ls C hR hL hl
  obtain ⟨hx, hb, hml', -, -, -, hown, hts, hSt, ⟨hfr, hlo⟩, hce, hsl2⟩ := id C
  obtain ⟨kc, ki, kp, kn, kpar, ko⟩ := hk
  have hgood : GoodIn zWT (.code (zmy M') (zmc M') (zmn M') (zmr M') :: zWT) := zGood (fun w hw => by
    rcases List.mem_cons.mp hw with rfl | h
    · exact kc
    · exact h)
  have hroom := zroom hn hce hsl2
  have hcn := va_cnB (R := Rm) (own := zmo M) (host := RX11) (mc := n2 - n) (ms := zS n2 - zS n) (rm := ({ frames := d', cells := n2 - n, slots := zS n2 - zS n, locals := 64 * d' } : Room)) ar hts hgood rfl rfl rfl (by rw [how]; exact hSt.2.1 _ hl0) (hts _ ki) ⟨kn.1, kn.2, kpar⟩ ⟨Nat.le_trans hd' hfr, Nat.le_trans (by show 8 + (zmn M' + 11) + 64 * d' ≤ 64 * d; omega) hlo⟩
  rw [hret] at hcn
  refine zAfter (w := (I, L, R, n)) C hL hl hn.1 hn.2.1 (va_runIN (Ts := zWT) (own := zmo M) (host := RX11) (b := zad g a) (n := ar) (rest := rest.map (zrv g)) ⟨hx, hb, hml', hown, hts⟩ hS ⟨by rw [hret]; exact hcn, hin, hts _ hi⟩ ⟨zPc_blind, fun U hU hW => ⟨rfl, by rw [hU]; exact hR, zSt_warm hW hSt⟩⟩ rfl (by rw [List.length_map]; exact har) hl.1 ?_ (lv_room ?_) hd hroom) kk
  · show (As.reverse ++ .ref a :: rest).map (zrv g) = _
    rw [List.map_append, List.map_reverse]
    rfl
  · have e : ((rest.map (zrv g)).map fun v => v.category) = rest.map fun v => v.category := by rw [List.map_map]; exact List.map_congr_left (fun v _ => zrv_cat g v)
    rw [e]; exact hcat
/-- a call that leaves the world as it is -/
def zP (x : Value) (w : zW) : Option Value → zW → Prop := fun v w' => v = some x ∧ w' = w
theorem zCallVP {M' : zM} {idx d' kd len a ar : Nat} {As rest : List Value} {x : Value} (hd : decode (zmc M) pc = .ok (.invokevirtual idx, 3)) (hl0 : Cond.methodLink (zmo M) idx (zmy M') ∈ zWT) (hk : zMk M' ar) (hi : Cond.instanceMethod (zmy M') ∈ zWT) (hsl : Cond.selects (zmy M').cls (zmy M') (zmy M') ∈ zWT)
    (hS : zSp g l d' n M' (.ref a :: As) (I, L, R, n) (zP x (I, L, R, n))) (hst : st = As.reverse ++ .ref a :: rest) (har : As.length = ar) (hs : zsh a = (kd, len)) (hkd : kd < 13) (hcl : zcR kd = zmo M') (ha : a < n) (hcat : (rest.map fun v => v.category).sum ≤ 8) (hml : zmn M' ≤ 45) (hd' : d' + 1 ≤ d) (hn : zNs n0 n n n1) (hq : q = pc + 3)
    (kk : zAW g l d n0 n1 M (I, L, R, n) q lv (x :: rest) Q) : zAW g l d n0 n1 M (I, L, R, n) pc lv st Q :=
  zCallV hd hl0 hk hi hsl hS hst har hs hkd hcl ha hcat hml hd' hn hq (fun v w' _ h => by obtain ⟨rfl, rfl⟩ := h; exact kk)
theorem zCallSP {M' : zM} {idx d' ar : Nat} {As rest : List Value} {x : Value} (hd : decode (zmc M) pc = .ok (.invokestatic idx, 3)) (hl0 : Cond.methodLink (zmo M) idx (zmy M') ∈ zWT) (hk : zMk M' ar) (hstc : Cond.static (zmy M') ∈ zWT)
    (hS : zSp g l d' n M' As (I, L, R, n) (zP x (I, L, R, n))) (hst : st = As.reverse ++ rest) (har : As.length = ar) (hcat : (rest.map fun v => v.category).sum ≤ 8) (hml : zmn M' ≤ 45) (hd' : d' + 1 ≤ d) (hn : zNs n0 n n n1) (hq : q = pc + 3)
    (kk : zAW g l d n0 n1 M (I, L, R, n) q lv (x :: rest) Q) : zAW g l d n0 n1 M (I, L, R, n) pc lv st Q :=
  zCallS hd hl0 hk hstc hS hst har hcat hml hd' hn hq (fun v w' _ h => by obtain ⟨rfl, rfl⟩ := h; exact kk)
theorem zMax {idx : Nat} {x y : Int32} (hd : decode (zmc M) pc = .ok (.invokestatic idx, 3)) (hl0 : Cond.methodLink (zmo M) idx (zmy m_J9_max) ∈ zWT) (h0 : 1 ≤ d) (hcat : (st.map fun v => v.category).sum ≤ 8) (hw : n0 ≤ w.2.2.2 ∧ w.2.2.2 ≤ n1) (hq : q = pc + 3) (kk : zAW g l d n0 n1 M w q lv (.int (if x < y then y else x) :: st) Q) : zAW g l d n0 n1 M w pc lv (.int y :: .int x :: st) Q := by
  subst hq
  intro p e Rm s m args below meth c H locs ls C hR hL hl
  obtain ⟨hx, hb, hml', -, -, -, hown, hts, hSt, ⟨hfr, hlo⟩, hce, hsl2⟩ := id C
  have hc1 : w.2.2.2 - n0 ≤ Rm.cells := by have := hw.2; omega
  have hs1 : zS w.2.2.2 - zS n0 ≤ Rm.slots := by have := zS_le hw.2; omega
  have ee : ((st.map (zrv g)).map fun v => v.category) = st.map fun v => v.category := by rw [List.map_map]; exact List.map_congr_left (fun v _ => zrv_cat g v)
  exact va_mmax hx hb (hml'.trans hl.1.symm) hown (hts _ hl0) (hts _ kt_J9_max) (hts _ it_J9) (hts _ kc_J9_max) (Nat.le_trans h0 hfr) (by rw [ee]; omega) hc1 hs1 hd (kk p e Rm s m args below meth c H locs ls C hR hL hl)
theorem zMin {idx : Nat} {x y : Int32} (hd : decode (zmc M) pc = .ok (.invokestatic idx, 3)) (hl0 : Cond.methodLink (zmo M) idx (zmy m_J9_min) ∈ zWT) (h0 : 1 ≤ d) (hcat : (st.map fun v => v.category).sum ≤ 8) (hw : n0 ≤ w.2.2.2 ∧ w.2.2.2 ≤ n1) (hq : q = pc + 3) (kk : zAW g l d n0 n1 M w q lv (.int (if y < x then y else x) :: st) Q) : zAW g l d n0 n1 M w pc lv (.int y :: .int x :: st) Q := by
  subst hq
  intro p e Rm s m args below meth c H locs ls C hR hL hl
  obtain ⟨hx, hb, hml', -, -, -, hown, hts, hSt, ⟨hfr, hlo⟩, hce, hsl2⟩ := id C
  have hc1 : w.2.2.2 - n0 ≤ Rm.cells := by have := hw.2; omega
  have hs1 : zS w.2.2.2 - zS n0 ≤ Rm.slots := by have := zS_le hw.2; omega
  have ee : ((st.map (zrv g)).map fun v => v.category) = st.map fun v => v.category := by rw [List.map_map]; exact List.map_congr_left (fun v _ => zrv_cat g v)
  exact va_mmin hx hb (hml'.trans hl.1.symm) hown (hts _ hl0) (hts _ kt_J9_min) (hts _ it_J9) (hts _ kc_J9_min) (Nat.le_trans h0 hfr) (by rw [ee]; omega) hc1 hs1 hd (kk p e Rm s m args below meth c H locs ls C hR hL hl)
end ZC
end
section
def zRL : List (List (Option Nat)) := [[some 1, some 16, some 19, some 22, some 24, some 29, some 31, some 36, some 38, some 41], [some 2, some 11, some 15], [some 3, some 4, some 5, some 6, some 7, some 8, some 9, some 10, some 11, some 12, some 13, some 14], [], [], [], [], [], [], [], [], [], [], [], [], [], [some 1, some 17, some 18], [], [], [some 1, some 20, some 21], [], [], [some 1, some 23], [], [some 25, some 26, some 27, some 28], [], [], [], [], [some 30], [], [some 32, some 33, some 34, some 35], [], [], [], [], [some 37], [], [some 39, some 40], [], [], [some 42, some 44, some 46, some 48, some 50, some 52], [some 43], [], [some 45], [], [some 47], [], [some 49], [], [some 51], [], [some 53], [], [some 55, some 56, some 57, some 58], [], [], [], [], [some 60, some 61, some 62, some 63], [], [], [], [], [none, none, some 65, some 66, some 67, some 68, some 69, some 70, none, some 71, some 72, none, some 73, some 74, none, none, some 75, some 76, some 77, some 78, some 79, none, none, none, none, none, some 80, some 81, some 82, some 83, some 84, some 85, some 86, none, none, some 87, some 88, some 89, some 90, none, some 91, some 92, none, none, none, none, none, none, some 93, none, some 94, none, some 95, some 96, some 97, some 98, some 99], [], [], [], [], [], [], [], [], [], [], [], [], [], [], [], [], [], [], [], [], [], [], [], [], [], [], [], [], [], [], [], [], [], [], []]
def zR0 (a k : Nat) : Option Nat := (zRL.getD a []).getD k none
/-- the references, once the constructors are through: all fixed, but the two laws and where the tape is read into -/
def zR (fs : Nat × Nat × Option Nat) (a k : Nat) : Option Nat := if a = 0 then (if k = 10 then some fs.1 else if k = 11 then some fs.2.1 else zR0 0 k) else if a = 29 then (if k = 3 then fs.2.2 else zR0 29 k) else zR0 a k
theorem sh_0 : zsh 0 = (11, 12) := rfl
theorem sh_1 : zsh 1 = (9, 6) := rfl
theorem sh_2 : zsh 2 = (24, 12) := rfl
theorem sh_3 : zsh 3 = (20, 10) := rfl
theorem sh_4 : zsh 4 = (20, 10) := rfl
theorem sh_5 : zsh 5 = (20, 10) := rfl
theorem sh_6 : zsh 6 = (20, 10) := rfl
theorem sh_7 : zsh 7 = (20, 10) := rfl
theorem sh_8 : zsh 8 = (20, 10) := rfl
theorem sh_9 : zsh 9 = (20, 10) := rfl
theorem sh_10 : zsh 10 = (20, 10) := rfl
theorem sh_11 : zsh 11 = (20, 10) := rfl
theorem sh_12 : zsh 12 = (20, 10) := rfl
theorem sh_13 : zsh 13 = (20, 10) := rfl
theorem sh_14 : zsh 14 = (20, 10) := rfl
theorem sh_15 : zsh 15 = (20, 5) := rfl
theorem sh_16 : zsh 16 = (4, 9) := rfl
theorem sh_17 : zsh 17 = (20, 12) := rfl
theorem sh_18 : zsh 18 = (20, 12) := rfl
theorem sh_19 : zsh 19 = (2, 6) := rfl
theorem sh_20 : zsh 20 = (20, 8) := rfl
theorem sh_21 : zsh 21 = (20, 8) := rfl
theorem sh_22 : zsh 22 = (3, 4) := rfl
theorem sh_23 : zsh 23 = (20, 24) := rfl
theorem sh_24 : zsh 24 = (7, 7) := rfl
theorem sh_25 : zsh 25 = (20, 10) := rfl
theorem sh_26 : zsh 26 = (20, 10) := rfl
theorem sh_27 : zsh 27 = (20, 10) := rfl
theorem sh_28 : zsh 28 = (20, 4) := rfl
theorem sh_29 : zsh 29 = (10, 4) := rfl
theorem sh_30 : zsh 30 = (20, 120) := rfl
theorem sh_31 : zsh 31 = (1, 6) := rfl
theorem sh_32 : zsh 32 = (20, 40) := rfl
theorem sh_33 : zsh 33 = (20, 40) := rfl
theorem sh_34 : zsh 34 = (20, 40) := rfl
theorem sh_35 : zsh 35 = (20, 40) := rfl
theorem sh_36 : zsh 36 = (5, 7) := rfl
theorem sh_37 : zsh 37 = (20, 5) := rfl
theorem sh_38 : zsh 38 = (0, 4) := rfl
theorem sh_39 : zsh 39 = (20, 50) := rfl
theorem sh_40 : zsh 40 = (20, 24) := rfl
theorem sh_41 : zsh 41 = (25, 6) := rfl
theorem sh_42 : zsh 42 = (8, 4) := rfl
theorem sh_43 : zsh 43 = (21, 60) := rfl
theorem sh_44 : zsh 44 = (8, 4) := rfl
theorem sh_45 : zsh 45 = (21, 60) := rfl
theorem sh_46 : zsh 46 = (8, 4) := rfl
theorem sh_47 : zsh 47 = (21, 60) := rfl
theorem sh_48 : zsh 48 = (8, 4) := rfl
theorem sh_49 : zsh 49 = (21, 60) := rfl
theorem sh_50 : zsh 50 = (8, 4) := rfl
theorem sh_51 : zsh 51 = (21, 60) := rfl
theorem sh_52 : zsh 52 = (8, 4) := rfl
theorem sh_53 : zsh 53 = (21, 60) := rfl
theorem sh_54 : zsh 54 = (6, 5) := rfl
theorem sh_55 : zsh 55 = (20, 128) := rfl
theorem sh_56 : zsh 56 = (20, 128) := rfl
theorem sh_57 : zsh 57 = (20, 128) := rfl
theorem sh_58 : zsh 58 = (20, 6) := rfl
theorem sh_59 : zsh 59 = (6, 5) := rfl
theorem sh_60 : zsh 60 = (20, 128) := rfl
theorem sh_61 : zsh 61 = (20, 128) := rfl
theorem sh_62 : zsh 62 = (20, 128) := rfl
theorem sh_63 : zsh 63 = (20, 6) := rfl
theorem sh_64 : zsh 64 = (12, 57) := rfl
theorem sh_65 : zsh 65 = (20, 10) := rfl
theorem sh_66 : zsh 66 = (20, 10) := rfl
theorem sh_67 : zsh 67 = (20, 10) := rfl
theorem sh_68 : zsh 68 = (20, 10) := rfl
theorem sh_69 : zsh 69 = (20, 10) := rfl
theorem sh_70 : zsh 70 = (20, 10) := rfl
theorem sh_71 : zsh 71 = (20, 4) := rfl
theorem sh_72 : zsh 72 = (20, 4) := rfl
theorem sh_73 : zsh 73 = (20, 6) := rfl
theorem sh_74 : zsh 74 = (20, 3) := rfl
theorem sh_75 : zsh 75 = (20, 40) := rfl
theorem sh_76 : zsh 76 = (20, 40) := rfl
theorem sh_77 : zsh 77 = (20, 40) := rfl
theorem sh_78 : zsh 78 = (20, 40) := rfl
theorem sh_79 : zsh 79 = (22, 120) := rfl
theorem sh_80 : zsh 80 = (22, 260) := rfl
theorem sh_81 : zsh 81 = (20, 260) := rfl
theorem sh_82 : zsh 82 = (20, 2) := rfl
theorem sh_83 : zsh 83 = (23, 122) := rfl
theorem sh_84 : zsh 84 = (23, 122) := rfl
theorem sh_85 : zsh 85 = (20, 6) := rfl
theorem sh_86 : zsh 86 = (20, 130) := rfl
theorem sh_87 : zsh 87 = (20, 10) := rfl
theorem sh_88 : zsh 88 = (20, 10) := rfl
theorem sh_89 : zsh 89 = (20, 10) := rfl
theorem sh_90 : zsh 90 = (20, 4) := rfl
theorem sh_91 : zsh 91 = (20, 4) := rfl
theorem sh_92 : zsh 92 = (20, 5) := rfl
theorem sh_93 : zsh 93 = (20, 5) := rfl
theorem sh_94 : zsh 94 = (20, 50) := rfl
theorem sh_95 : zsh 95 = (20, 24) := rfl
theorem sh_96 : zsh 96 = (20, 6) := rfl
theorem sh_97 : zsh 97 = (20, 6) := rfl
theorem sh_98 : zsh 98 = (21, 360) := rfl
theorem sh_99 : zsh 99 = (21, 60) := rfl
theorem r_0_0 {fs : Nat × Nat × Option Nat} : zR fs 0 0 = some 1 := rfl
theorem r_0_1 {fs : Nat × Nat × Option Nat} : zR fs 0 1 = some 16 := rfl
theorem r_0_2 {fs : Nat × Nat × Option Nat} : zR fs 0 2 = some 19 := rfl
theorem r_0_3 {fs : Nat × Nat × Option Nat} : zR fs 0 3 = some 22 := rfl
theorem r_0_4 {fs : Nat × Nat × Option Nat} : zR fs 0 4 = some 24 := rfl
theorem r_0_5 {fs : Nat × Nat × Option Nat} : zR fs 0 5 = some 29 := rfl
theorem r_0_6 {fs : Nat × Nat × Option Nat} : zR fs 0 6 = some 31 := rfl
theorem r_0_7 {fs : Nat × Nat × Option Nat} : zR fs 0 7 = some 36 := rfl
theorem r_0_8 {fs : Nat × Nat × Option Nat} : zR fs 0 8 = some 38 := rfl
theorem r_0_9 {fs : Nat × Nat × Option Nat} : zR fs 0 9 = some 41 := rfl
theorem r_1_0 {fs : Nat × Nat × Option Nat} : zR fs 1 0 = some 2 := rfl
theorem r_1_1 {fs : Nat × Nat × Option Nat} : zR fs 1 1 = some 11 := rfl
theorem r_1_2 {fs : Nat × Nat × Option Nat} : zR fs 1 2 = some 15 := rfl
theorem r_2_0 {fs : Nat × Nat × Option Nat} : zR fs 2 0 = some 3 := rfl
theorem r_2_1 {fs : Nat × Nat × Option Nat} : zR fs 2 1 = some 4 := rfl
theorem r_2_2 {fs : Nat × Nat × Option Nat} : zR fs 2 2 = some 5 := rfl
theorem r_2_3 {fs : Nat × Nat × Option Nat} : zR fs 2 3 = some 6 := rfl
theorem r_2_4 {fs : Nat × Nat × Option Nat} : zR fs 2 4 = some 7 := rfl
theorem r_2_5 {fs : Nat × Nat × Option Nat} : zR fs 2 5 = some 8 := rfl
theorem r_2_6 {fs : Nat × Nat × Option Nat} : zR fs 2 6 = some 9 := rfl
theorem r_2_7 {fs : Nat × Nat × Option Nat} : zR fs 2 7 = some 10 := rfl
theorem r_2_8 {fs : Nat × Nat × Option Nat} : zR fs 2 8 = some 11 := rfl
theorem r_2_9 {fs : Nat × Nat × Option Nat} : zR fs 2 9 = some 12 := rfl
theorem r_2_10 {fs : Nat × Nat × Option Nat} : zR fs 2 10 = some 13 := rfl
theorem r_2_11 {fs : Nat × Nat × Option Nat} : zR fs 2 11 = some 14 := rfl
theorem r_16_0 {fs : Nat × Nat × Option Nat} : zR fs 16 0 = some 1 := rfl
theorem r_16_1 {fs : Nat × Nat × Option Nat} : zR fs 16 1 = some 17 := rfl
theorem r_16_2 {fs : Nat × Nat × Option Nat} : zR fs 16 2 = some 18 := rfl
theorem r_19_0 {fs : Nat × Nat × Option Nat} : zR fs 19 0 = some 1 := rfl
theorem r_19_1 {fs : Nat × Nat × Option Nat} : zR fs 19 1 = some 20 := rfl
theorem r_19_2 {fs : Nat × Nat × Option Nat} : zR fs 19 2 = some 21 := rfl
theorem r_22_0 {fs : Nat × Nat × Option Nat} : zR fs 22 0 = some 1 := rfl
theorem r_22_1 {fs : Nat × Nat × Option Nat} : zR fs 22 1 = some 23 := rfl
theorem r_24_0 {fs : Nat × Nat × Option Nat} : zR fs 24 0 = some 25 := rfl
theorem r_24_1 {fs : Nat × Nat × Option Nat} : zR fs 24 1 = some 26 := rfl
theorem r_24_2 {fs : Nat × Nat × Option Nat} : zR fs 24 2 = some 27 := rfl
theorem r_24_3 {fs : Nat × Nat × Option Nat} : zR fs 24 3 = some 28 := rfl
theorem r_29_0 {fs : Nat × Nat × Option Nat} : zR fs 29 0 = some 30 := rfl
theorem r_31_0 {fs : Nat × Nat × Option Nat} : zR fs 31 0 = some 32 := rfl
theorem r_31_1 {fs : Nat × Nat × Option Nat} : zR fs 31 1 = some 33 := rfl
theorem r_31_2 {fs : Nat × Nat × Option Nat} : zR fs 31 2 = some 34 := rfl
theorem r_31_3 {fs : Nat × Nat × Option Nat} : zR fs 31 3 = some 35 := rfl
theorem r_36_0 {fs : Nat × Nat × Option Nat} : zR fs 36 0 = some 37 := rfl
theorem r_38_0 {fs : Nat × Nat × Option Nat} : zR fs 38 0 = some 39 := rfl
theorem r_38_1 {fs : Nat × Nat × Option Nat} : zR fs 38 1 = some 40 := rfl
theorem r_41_0 {fs : Nat × Nat × Option Nat} : zR fs 41 0 = some 42 := rfl
theorem r_41_1 {fs : Nat × Nat × Option Nat} : zR fs 41 1 = some 44 := rfl
theorem r_41_2 {fs : Nat × Nat × Option Nat} : zR fs 41 2 = some 46 := rfl
theorem r_41_3 {fs : Nat × Nat × Option Nat} : zR fs 41 3 = some 48 := rfl
theorem r_41_4 {fs : Nat × Nat × Option Nat} : zR fs 41 4 = some 50 := rfl
theorem r_41_5 {fs : Nat × Nat × Option Nat} : zR fs 41 5 = some 52 := rfl
theorem r_42_0 {fs : Nat × Nat × Option Nat} : zR fs 42 0 = some 43 := rfl
theorem r_44_0 {fs : Nat × Nat × Option Nat} : zR fs 44 0 = some 45 := rfl
theorem r_46_0 {fs : Nat × Nat × Option Nat} : zR fs 46 0 = some 47 := rfl
theorem r_48_0 {fs : Nat × Nat × Option Nat} : zR fs 48 0 = some 49 := rfl
theorem r_50_0 {fs : Nat × Nat × Option Nat} : zR fs 50 0 = some 51 := rfl
theorem r_52_0 {fs : Nat × Nat × Option Nat} : zR fs 52 0 = some 53 := rfl
theorem r_54_0 {fs : Nat × Nat × Option Nat} : zR fs 54 0 = some 55 := rfl
theorem r_54_1 {fs : Nat × Nat × Option Nat} : zR fs 54 1 = some 56 := rfl
theorem r_54_2 {fs : Nat × Nat × Option Nat} : zR fs 54 2 = some 57 := rfl
theorem r_54_3 {fs : Nat × Nat × Option Nat} : zR fs 54 3 = some 58 := rfl
theorem r_59_0 {fs : Nat × Nat × Option Nat} : zR fs 59 0 = some 60 := rfl
theorem r_59_1 {fs : Nat × Nat × Option Nat} : zR fs 59 1 = some 61 := rfl
theorem r_59_2 {fs : Nat × Nat × Option Nat} : zR fs 59 2 = some 62 := rfl
theorem r_59_3 {fs : Nat × Nat × Option Nat} : zR fs 59 3 = some 63 := rfl
theorem r_64_2 {fs : Nat × Nat × Option Nat} : zR fs 64 2 = some 65 := rfl
theorem r_64_3 {fs : Nat × Nat × Option Nat} : zR fs 64 3 = some 66 := rfl
theorem r_64_4 {fs : Nat × Nat × Option Nat} : zR fs 64 4 = some 67 := rfl
theorem r_64_5 {fs : Nat × Nat × Option Nat} : zR fs 64 5 = some 68 := rfl
theorem r_64_6 {fs : Nat × Nat × Option Nat} : zR fs 64 6 = some 69 := rfl
theorem r_64_7 {fs : Nat × Nat × Option Nat} : zR fs 64 7 = some 70 := rfl
theorem r_64_9 {fs : Nat × Nat × Option Nat} : zR fs 64 9 = some 71 := rfl
theorem r_64_10 {fs : Nat × Nat × Option Nat} : zR fs 64 10 = some 72 := rfl
theorem r_64_12 {fs : Nat × Nat × Option Nat} : zR fs 64 12 = some 73 := rfl
theorem r_64_13 {fs : Nat × Nat × Option Nat} : zR fs 64 13 = some 74 := rfl
theorem r_64_16 {fs : Nat × Nat × Option Nat} : zR fs 64 16 = some 75 := rfl
theorem r_64_17 {fs : Nat × Nat × Option Nat} : zR fs 64 17 = some 76 := rfl
theorem r_64_18 {fs : Nat × Nat × Option Nat} : zR fs 64 18 = some 77 := rfl
theorem r_64_19 {fs : Nat × Nat × Option Nat} : zR fs 64 19 = some 78 := rfl
theorem r_64_20 {fs : Nat × Nat × Option Nat} : zR fs 64 20 = some 79 := rfl
theorem r_64_26 {fs : Nat × Nat × Option Nat} : zR fs 64 26 = some 80 := rfl
theorem r_64_27 {fs : Nat × Nat × Option Nat} : zR fs 64 27 = some 81 := rfl
theorem r_64_28 {fs : Nat × Nat × Option Nat} : zR fs 64 28 = some 82 := rfl
theorem r_64_29 {fs : Nat × Nat × Option Nat} : zR fs 64 29 = some 83 := rfl
theorem r_64_30 {fs : Nat × Nat × Option Nat} : zR fs 64 30 = some 84 := rfl
theorem r_64_31 {fs : Nat × Nat × Option Nat} : zR fs 64 31 = some 85 := rfl
theorem r_64_32 {fs : Nat × Nat × Option Nat} : zR fs 64 32 = some 86 := rfl
theorem r_64_35 {fs : Nat × Nat × Option Nat} : zR fs 64 35 = some 87 := rfl
theorem r_64_36 {fs : Nat × Nat × Option Nat} : zR fs 64 36 = some 88 := rfl
theorem r_64_37 {fs : Nat × Nat × Option Nat} : zR fs 64 37 = some 89 := rfl
theorem r_64_38 {fs : Nat × Nat × Option Nat} : zR fs 64 38 = some 90 := rfl
theorem r_64_40 {fs : Nat × Nat × Option Nat} : zR fs 64 40 = some 91 := rfl
theorem r_64_41 {fs : Nat × Nat × Option Nat} : zR fs 64 41 = some 92 := rfl
theorem r_64_48 {fs : Nat × Nat × Option Nat} : zR fs 64 48 = some 93 := rfl
theorem r_64_50 {fs : Nat × Nat × Option Nat} : zR fs 64 50 = some 94 := rfl
theorem r_64_52 {fs : Nat × Nat × Option Nat} : zR fs 64 52 = some 95 := rfl
theorem r_64_53 {fs : Nat × Nat × Option Nat} : zR fs 64 53 = some 96 := rfl
theorem r_64_54 {fs : Nat × Nat × Option Nat} : zR fs 64 54 = some 97 := rfl
theorem r_64_55 {fs : Nat × Nat × Option Nat} : zR fs 64 55 = some 98 := rfl
theorem r_64_56 {fs : Nat × Nat × Option Nat} : zR fs 64 56 = some 99 := rfl
theorem ff_X9_13 : zFL RX9 13 9 0 true := ⟨fl_X9_13, by decide, by decide, rfl⟩
theorem ff_X9_16 : zFL RX9 16 9 1 true := ⟨fl_X9_16, by decide, by decide, rfl⟩
theorem ff_X4_26 : zFL RX4 26 9 1 true := ⟨fl_X4_26, by decide, by decide, rfl⟩
theorem ff_X9_20 : zFL RX9 20 9 2 true := ⟨fl_X9_20, by decide, by decide, rfl⟩
theorem ff_X5_40 : zFL RX5 40 9 2 true := ⟨fl_X5_40, by decide, by decide, rfl⟩
theorem ff_X11_284 : zFL RX11 284 9 2 true := ⟨fl_X11_284, by decide, by decide, rfl⟩
theorem ff_X9_23 : zFL RX9 23 9 3 false := ⟨fl_X9_23, by decide, by decide, rfl⟩
theorem ff_X5_26 : zFL RX5 26 9 3 false := ⟨fl_X5_26, by decide, by decide, rfl⟩
theorem ff_X3_41 : zFL RX3 41 9 3 false := ⟨fl_X3_41, by decide, by decide, rfl⟩
theorem ff_X4_85 : zFL RX4 85 9 3 false := ⟨fl_X4_85, by decide, by decide, rfl⟩
theorem ff_X11_370 : zFL RX11 370 9 3 false := ⟨fl_X11_370, by decide, by decide, rfl⟩
theorem ff_X9_27 : zFL RX9 27 9 4 false := ⟨fl_X9_27, by decide, by decide, rfl⟩
theorem ff_X11_189 : zFL RX11 189 9 4 false := ⟨fl_X11_189, by decide, by decide, rfl⟩
theorem ff_X4_20 : zFL RX4 20 9 5 false := ⟨fl_X4_20, by decide, by decide, rfl⟩
theorem ff_X9_30 : zFL RX9 30 9 5 false := ⟨fl_X9_30, by decide, by decide, rfl⟩
theorem ff_X11_380 : zFL RX11 380 9 5 false := ⟨fl_X11_380, by decide, by decide, rfl⟩
theorem ff_X4_16 : zFL RX4 16 4 0 true := ⟨fl_X4_16, by decide, by decide, rfl⟩
theorem ff_X4_9 : zFL RX4 9 4 1 true := ⟨fl_X4_9, by decide, by decide, rfl⟩
theorem ff_X4_13 : zFL RX4 13 4 2 true := ⟨fl_X4_13, by decide, by decide, rfl⟩
theorem ff_X4_43 : zFL RX4 43 4 3 false := ⟨fl_X4_43, by decide, by decide, rfl⟩
theorem ff_X4_57 : zFL RX4 57 4 4 false := ⟨fl_X4_57, by decide, by decide, rfl⟩
theorem ff_X11_244 : zFL RX11 244 4 4 false := ⟨fl_X11_244, by decide, by decide, rfl⟩
theorem ff_X4_60 : zFL RX4 60 4 5 false := ⟨fl_X4_60, by decide, by decide, rfl⟩
theorem ff_X11_247 : zFL RX11 247 4 5 false := ⟨fl_X11_247, by decide, by decide, rfl⟩
theorem ff_X4_73 : zFL RX4 73 4 6 false := ⟨fl_X4_73, by decide, by decide, rfl⟩
theorem ff_X4_82 : zFL RX4 82 4 7 false := ⟨fl_X4_82, by decide, by decide, rfl⟩
theorem ff_X11_266 : zFL RX11 266 4 7 false := ⟨fl_X11_266, by decide, by decide, rfl⟩
theorem ff_X4_75 : zFL RX4 75 4 8 false := ⟨fl_X4_75, by decide, by decide, rfl⟩
theorem ff_X11_269 : zFL RX11 269 4 8 false := ⟨fl_X11_269, by decide, by decide, rfl⟩
theorem ff_X2_18 : zFL RX2 18 2 0 true := ⟨fl_X2_18, by decide, by decide, rfl⟩
theorem ff_X2_11 : zFL RX2 11 2 1 true := ⟨fl_X2_11, by decide, by decide, rfl⟩
theorem ff_X2_15 : zFL RX2 15 2 2 true := ⟨fl_X2_15, by decide, by decide, rfl⟩
theorem ff_X2_22 : zFL RX2 22 2 3 false := ⟨fl_X2_22, by decide, by decide, rfl⟩
theorem ff_X2_38 : zFL RX2 38 2 4 false := ⟨fl_X2_38, by decide, by decide, rfl⟩
theorem ff_X11_256 : zFL RX11 256 2 4 false := ⟨fl_X11_256, by decide, by decide, rfl⟩
theorem ff_X2_41 : zFL RX2 41 2 5 false := ⟨fl_X2_41, by decide, by decide, rfl⟩
theorem ff_X11_259 : zFL RX11 259 2 5 false := ⟨fl_X11_259, by decide, by decide, rfl⟩
theorem ff_X3_15 : zFL RX3 15 3 0 true := ⟨fl_X3_15, by decide, by decide, rfl⟩
theorem ff_X3_9 : zFL RX3 9 3 1 true := ⟨fl_X3_9, by decide, by decide, rfl⟩
theorem ff_X3_22 : zFL RX3 22 3 2 false := ⟨fl_X3_22, by decide, by decide, rfl⟩
theorem ff_X11_222 : zFL RX11 222 3 2 false := ⟨fl_X11_222, by decide, by decide, rfl⟩
theorem ff_X3_26 : zFL RX3 26 3 3 false := ⟨fl_X3_26, by decide, by decide, rfl⟩
theorem ff_X11_225 : zFL RX11 225 3 3 false := ⟨fl_X11_225, by decide, by decide, rfl⟩
theorem ff_X7_9 : zFL RX7 9 7 0 true := ⟨fl_X7_9, by decide, by decide, rfl⟩
theorem ff_X7_15 : zFL RX7 15 7 1 true := ⟨fl_X7_15, by decide, by decide, rfl⟩
theorem ff_X11_174 : zFL RX11 174 7 1 true := ⟨fl_X11_174, by decide, by decide, rfl⟩
theorem ff_X7_18 : zFL RX7 18 7 2 true := ⟨fl_X7_18, by decide, by decide, rfl⟩
theorem ff_X11_180 : zFL RX11 180 7 2 true := ⟨fl_X11_180, by decide, by decide, rfl⟩
theorem ff_X7_21 : zFL RX7 21 7 3 true := ⟨fl_X7_21, by decide, by decide, rfl⟩
theorem ff_X7_28 : zFL RX7 28 7 4 false := ⟨fl_X7_28, by decide, by decide, rfl⟩
theorem ff_X11_171 : zFL RX11 171 7 4 false := ⟨fl_X11_171, by decide, by decide, rfl⟩
theorem ff_X7_36 : zFL RX7 36 7 5 false := ⟨fl_X7_36, by decide, by decide, rfl⟩
theorem ff_X11_167 : zFL RX11 167 7 5 false := ⟨fl_X11_167, by decide, by decide, rfl⟩
theorem ff_X7_62 : zFL RX7 62 7 6 false := ⟨fl_X7_62, by decide, by decide, rfl⟩
theorem ff_X11_272 : zFL RX11 272 7 6 false := ⟨fl_X11_272, by decide, by decide, rfl⟩
theorem ff_X10_11 : zFL RX10 11 10 0 true := ⟨fl_X10_11, by decide, by decide, rfl⟩
theorem ff_X10_15 : zFL RX10 15 10 1 false := ⟨fl_X10_15, by decide, by decide, rfl⟩
theorem ff_X11_373 : zFL RX11 373 10 1 false := ⟨fl_X11_373, by decide, by decide, rfl⟩
theorem ff_X10_28 : zFL RX10 28 10 2 false := ⟨fl_X10_28, by decide, by decide, rfl⟩
theorem ff_X10_24 : zFL RX10 24 10 3 true := ⟨fl_X10_24, by decide, by decide, rfl⟩
theorem ff_X1_11 : zFL RX1 11 1 0 true := ⟨fl_X1_11, by decide, by decide, rfl⟩
theorem ff_X1_15 : zFL RX1 15 1 1 true := ⟨fl_X1_15, by decide, by decide, rfl⟩
theorem ff_X1_18 : zFL RX1 18 1 2 true := ⟨fl_X1_18, by decide, by decide, rfl⟩
theorem ff_X1_21 : zFL RX1 21 1 3 true := ⟨fl_X1_21, by decide, by decide, rfl⟩
theorem ff_X1_24 : zFL RX1 24 1 4 false := ⟨fl_X1_24, by decide, by decide, rfl⟩
theorem ff_X11_376 : zFL RX11 376 1 4 false := ⟨fl_X11_376, by decide, by decide, rfl⟩
theorem ff_X1_31 : zFL RX1 31 1 5 false := ⟨fl_X1_31, by decide, by decide, rfl⟩
theorem ff_X5_9 : zFL RX5 9 5 0 true := ⟨fl_X5_9, by decide, by decide, rfl⟩
theorem ff_X5_19 : zFL RX5 19 5 1 false := ⟨fl_X5_19, by decide, by decide, rfl⟩
theorem ff_X5_23 : zFL RX5 23 5 2 false := ⟨fl_X5_23, by decide, by decide, rfl⟩
theorem ff_X5_29 : zFL RX5 29 5 3 false := ⟨fl_X5_29, by decide, by decide, rfl⟩
theorem ff_X5_34 : zFL RX5 34 5 4 false := ⟨fl_X5_34, by decide, by decide, rfl⟩
theorem ff_X5_37 : zFL RX5 37 5 5 false := ⟨fl_X5_37, by decide, by decide, rfl⟩
theorem ff_X5_47 : zFL RX5 47 5 6 false := ⟨fl_X5_47, by decide, by decide, rfl⟩
theorem ff_X11_296 : zFL RX11 296 5 6 false := ⟨fl_X11_296, by decide, by decide, rfl⟩
theorem ff_X0_11 : zFL RX0 11 0 0 true := ⟨fl_X0_11, by decide, by decide, rfl⟩
theorem ff_X0_15 : zFL RX0 15 0 1 true := ⟨fl_X0_15, by decide, by decide, rfl⟩
theorem ff_X11_317 : zFL RX11 317 0 1 true := ⟨fl_X11_317, by decide, by decide, rfl⟩
theorem ff_X0_18 : zFL RX0 18 0 2 false := ⟨fl_X0_18, by decide, by decide, rfl⟩
theorem ff_X11_320 : zFL RX11 320 0 2 false := ⟨fl_X11_320, by decide, by decide, rfl⟩
theorem ff_X0_29 : zFL RX0 29 0 3 false := ⟨fl_X0_29, by decide, by decide, rfl⟩
theorem ff_X11_377 : zFL RX11 377 0 3 false := ⟨fl_X11_377, by decide, by decide, rfl⟩
theorem ff_X8_11 : zFL RX8 11 8 0 true := ⟨fl_X8_11, by decide, by decide, rfl⟩
theorem ff_X11_342 : zFL RX11 342 8 0 true := ⟨fl_X11_342, by decide, by decide, rfl⟩
theorem ff_X8_15 : zFL RX8 15 8 1 false := ⟨fl_X8_15, by decide, by decide, rfl⟩
theorem ff_X11_346 : zFL RX11 346 8 1 false := ⟨fl_X11_346, by decide, by decide, rfl⟩
theorem ff_X8_35 : zFL RX8 35 8 2 false := ⟨fl_X8_35, by decide, by decide, rfl⟩
theorem ff_X8_23 : zFL RX8 23 8 3 false := ⟨fl_X8_23, by decide, by decide, rfl⟩
theorem ff_X11_361 : zFL RX11 361 8 3 false := ⟨fl_X11_361, by decide, by decide, rfl⟩
theorem ff_X6_9 : zFL RX6 9 6 0 true := ⟨fl_X6_9, by decide, by decide, rfl⟩
theorem ff_X6_13 : zFL RX6 13 6 1 true := ⟨fl_X6_13, by decide, by decide, rfl⟩
theorem ff_X6_16 : zFL RX6 16 6 2 true := ⟨fl_X6_16, by decide, by decide, rfl⟩
theorem ff_X6_19 : zFL RX6 19 6 3 true := ⟨fl_X6_19, by decide, by decide, rfl⟩
theorem ff_X6_22 : zFL RX6 22 6 4 false := ⟨fl_X6_22, by decide, by decide, rfl⟩
theorem ff_X10_43 : zFL RX10 43 6 4 false := ⟨fl_X10_43, by decide, by decide, rfl⟩
theorem ff_X11_10 : zFL RX11 10 11 0 true := ⟨fl_X11_10, by decide, by decide, rfl⟩
theorem ff_X11_21 : zFL RX11 21 11 1 true := ⟨fl_X11_21, by decide, by decide, rfl⟩
theorem ff_X11_28 : zFL RX11 28 11 2 true := ⟨fl_X11_28, by decide, by decide, rfl⟩
theorem ff_X11_35 : zFL RX11 35 11 3 true := ⟨fl_X11_35, by decide, by decide, rfl⟩
theorem ff_X11_42 : zFL RX11 42 11 4 true := ⟨fl_X11_42, by decide, by decide, rfl⟩
theorem ff_X11_49 : zFL RX11 49 11 5 true := ⟨fl_X11_49, by decide, by decide, rfl⟩
theorem ff_X11_56 : zFL RX11 56 11 6 true := ⟨fl_X11_56, by decide, by decide, rfl⟩
theorem ff_X11_63 : zFL RX11 63 11 7 true := ⟨fl_X11_63, by decide, by decide, rfl⟩
theorem ff_X11_70 : zFL RX11 70 11 8 true := ⟨fl_X11_70, by decide, by decide, rfl⟩
theorem ff_X11_76 : zFL RX11 76 11 9 true := ⟨fl_X11_76, by decide, by decide, rfl⟩
theorem ff_X11_84 : zFL RX11 84 11 10 true := ⟨fl_X11_84, by decide, by decide, rfl⟩
theorem ff_X11_88 : zFL RX11 88 11 11 true := ⟨fl_X11_88, by decide, by decide, rfl⟩
theorem ff_X12_124 : zFL RX12 124 12 1 false := ⟨fl_X12_124, by decide, by decide, rfl⟩
theorem ff_X12_9 : zFL RX12 9 12 2 true := ⟨fl_X12_9, by decide, by decide, rfl⟩
theorem ff_X12_15 : zFL RX12 15 12 3 true := ⟨fl_X12_15, by decide, by decide, rfl⟩
theorem ff_X12_18 : zFL RX12 18 12 4 true := ⟨fl_X12_18, by decide, by decide, rfl⟩
theorem ff_X12_21 : zFL RX12 21 12 5 true := ⟨fl_X12_21, by decide, by decide, rfl⟩
theorem ff_X12_24 : zFL RX12 24 12 6 true := ⟨fl_X12_24, by decide, by decide, rfl⟩
theorem ff_X12_27 : zFL RX12 27 12 7 true := ⟨fl_X12_27, by decide, by decide, rfl⟩
theorem ff_X12_131 : zFL RX12 131 12 8 false := ⟨fl_X12_131, by decide, by decide, rfl⟩
theorem ff_X12_30 : zFL RX12 30 12 9 true := ⟨fl_X12_30, by decide, by decide, rfl⟩
theorem ff_X12_33 : zFL RX12 33 12 10 true := ⟨fl_X12_33, by decide, by decide, rfl⟩
theorem ff_X12_157 : zFL RX12 157 12 11 false := ⟨fl_X12_157, by decide, by decide, rfl⟩
theorem ff_X12_36 : zFL RX12 36 12 12 true := ⟨fl_X12_36, by decide, by decide, rfl⟩
theorem ff_X12_39 : zFL RX12 39 12 13 true := ⟨fl_X12_39, by decide, by decide, rfl⟩
theorem ff_X12_171 : zFL RX12 171 12 14 false := ⟨fl_X12_171, by decide, by decide, rfl⟩
theorem ff_X12_168 : zFL RX12 168 12 15 false := ⟨fl_X12_168, by decide, by decide, rfl⟩
theorem ff_X12_42 : zFL RX12 42 12 16 true := ⟨fl_X12_42, by decide, by decide, rfl⟩
theorem ff_X12_45 : zFL RX12 45 12 17 true := ⟨fl_X12_45, by decide, by decide, rfl⟩
theorem ff_X12_48 : zFL RX12 48 12 18 true := ⟨fl_X12_48, by decide, by decide, rfl⟩
theorem ff_X12_51 : zFL RX12 51 12 19 true := ⟨fl_X12_51, by decide, by decide, rfl⟩
theorem ff_X12_54 : zFL RX12 54 12 20 true := ⟨fl_X12_54, by decide, by decide, rfl⟩
theorem ff_X12_188 : zFL RX12 188 12 21 false := ⟨fl_X12_188, by decide, by decide, rfl⟩
theorem ff_X12_191 : zFL RX12 191 12 22 false := ⟨fl_X12_191, by decide, by decide, rfl⟩
theorem ff_X12_194 : zFL RX12 194 12 23 false := ⟨fl_X12_194, by decide, by decide, rfl⟩
theorem ff_X12_200 : zFL RX12 200 12 24 false := ⟨fl_X12_200, by decide, by decide, rfl⟩
theorem ff_X12_197 : zFL RX12 197 12 25 false := ⟨fl_X12_197, by decide, by decide, rfl⟩
theorem ff_X12_58 : zFL RX12 58 12 26 true := ⟨fl_X12_58, by decide, by decide, rfl⟩
theorem ff_X12_61 : zFL RX12 61 12 27 true := ⟨fl_X12_61, by decide, by decide, rfl⟩
theorem ff_X12_64 : zFL RX12 64 12 28 true := ⟨fl_X12_64, by decide, by decide, rfl⟩
theorem ff_X12_67 : zFL RX12 67 12 29 true := ⟨fl_X12_67, by decide, by decide, rfl⟩
theorem ff_X12_71 : zFL RX12 71 12 30 true := ⟨fl_X12_71, by decide, by decide, rfl⟩
theorem ff_X12_74 : zFL RX12 74 12 31 true := ⟨fl_X12_74, by decide, by decide, rfl⟩
theorem ff_X12_77 : zFL RX12 77 12 32 true := ⟨fl_X12_77, by decide, by decide, rfl⟩
theorem ff_X12_254 : zFL RX12 254 12 33 false := ⟨fl_X12_254, by decide, by decide, rfl⟩
theorem ff_X12_270 : zFL RX12 270 12 34 false := ⟨fl_X12_270, by decide, by decide, rfl⟩
theorem ff_X12_80 : zFL RX12 80 12 35 true := ⟨fl_X12_80, by decide, by decide, rfl⟩
theorem ff_X12_83 : zFL RX12 83 12 36 true := ⟨fl_X12_83, by decide, by decide, rfl⟩
theorem ff_X12_86 : zFL RX12 86 12 37 true := ⟨fl_X12_86, by decide, by decide, rfl⟩
theorem ff_X12_89 : zFL RX12 89 12 38 true := ⟨fl_X12_89, by decide, by decide, rfl⟩
theorem ff_X12_273 : zFL RX12 273 12 39 false := ⟨fl_X12_273, by decide, by decide, rfl⟩
theorem ff_X12_92 : zFL RX12 92 12 40 true := ⟨fl_X12_92, by decide, by decide, rfl⟩
theorem ff_X12_95 : zFL RX12 95 12 41 true := ⟨fl_X12_95, by decide, by decide, rfl⟩
theorem ff_X12_358 : zFL RX12 358 12 42 false := ⟨fl_X12_358, by decide, by decide, rfl⟩
theorem ff_X12_361 : zFL RX12 361 12 43 false := ⟨fl_X12_361, by decide, by decide, rfl⟩
theorem ff_X12_364 : zFL RX12 364 12 44 false := ⟨fl_X12_364, by decide, by decide, rfl⟩
theorem ff_X12_367 : zFL RX12 367 12 45 false := ⟨fl_X12_367, by decide, by decide, rfl⟩
theorem ff_X12_370 : zFL RX12 370 12 46 false := ⟨fl_X12_370, by decide, by decide, rfl⟩
theorem ff_X12_373 : zFL RX12 373 12 47 false := ⟨fl_X12_373, by decide, by decide, rfl⟩
theorem ff_X12_98 : zFL RX12 98 12 48 true := ⟨fl_X12_98, by decide, by decide, rfl⟩
theorem ff_X12_376 : zFL RX12 376 12 49 false := ⟨fl_X12_376, by decide, by decide, rfl⟩
theorem ff_X12_101 : zFL RX12 101 12 50 true := ⟨fl_X12_101, by decide, by decide, rfl⟩
theorem ff_X12_379 : zFL RX12 379 12 51 false := ⟨fl_X12_379, by decide, by decide, rfl⟩
theorem ff_X12_104 : zFL RX12 104 12 52 true := ⟨fl_X12_104, by decide, by decide, rfl⟩
theorem ff_X12_107 : zFL RX12 107 12 53 true := ⟨fl_X12_107, by decide, by decide, rfl⟩
theorem ff_X12_110 : zFL RX12 110 12 54 true := ⟨fl_X12_110, by decide, by decide, rfl⟩
theorem ff_X12_113 : zFL RX12 113 12 55 true := ⟨fl_X12_113, by decide, by decide, rfl⟩
theorem ff_X12_117 : zFL RX12 117 12 56 true := ⟨fl_X12_117, by decide, by decide, rfl⟩
theorem ic_m1 : Int32.ofInt (-1) = -1 := by decide
theorem ic_0 : Int32.ofInt (0) = 0 := by decide
theorem ic_1 : Int32.ofInt (1) = 1 := by decide
theorem ic_2 : Int32.ofInt (2) = 2 := by decide
theorem ic_3 : Int32.ofInt (3) = 3 := by decide
theorem ic_4 : Int32.ofInt (4) = 4 := by decide
theorem ic_5 : Int32.ofInt (5) = 5 := by decide
theorem bc_m100 : (Int8.ofInt (-100)).toInt32 = -100 := by decide
theorem bc_m14 : (Int8.ofInt (-14)).toInt32 = -14 := by decide
theorem bc_m13 : (Int8.ofInt (-13)).toInt32 = -13 := by decide
theorem bc_m12 : (Int8.ofInt (-12)).toInt32 = -12 := by decide
theorem bc_m11 : (Int8.ofInt (-11)).toInt32 = -11 := by decide
theorem bc_m7 : (Int8.ofInt (-7)).toInt32 = -7 := by decide
theorem bc_m5 : (Int8.ofInt (-5)).toInt32 = -5 := by decide
theorem bc_m3 : (Int8.ofInt (-3)).toInt32 = -3 := by decide
theorem bc_m2 : (Int8.ofInt (-2)).toInt32 = -2 := by decide
theorem bc_6 : (Int8.ofInt (6)).toInt32 = 6 := by decide
theorem bc_7 : (Int8.ofInt (7)).toInt32 = 7 := by decide
theorem bc_8 : (Int8.ofInt (8)).toInt32 = 8 := by decide
theorem bc_9 : (Int8.ofInt (9)).toInt32 = 9 := by decide
theorem bc_10 : (Int8.ofInt (10)).toInt32 = 10 := by decide
theorem bc_11 : (Int8.ofInt (11)).toInt32 = 11 := by decide
theorem bc_12 : (Int8.ofInt (12)).toInt32 = 12 := by decide
theorem bc_15 : (Int8.ofInt (15)).toInt32 = 15 := by decide
theorem bc_16 : (Int8.ofInt (16)).toInt32 = 16 := by decide
theorem bc_20 : (Int8.ofInt (20)).toInt32 = 20 := by decide
theorem bc_23 : (Int8.ofInt (23)).toInt32 = 23 := by decide
theorem bc_24 : (Int8.ofInt (24)).toInt32 = 24 := by decide
theorem bc_30 : (Int8.ofInt (30)).toInt32 = 30 := by decide
theorem bc_32 : (Int8.ofInt (32)).toInt32 = 32 := by decide
theorem bc_33 : (Int8.ofInt (33)).toInt32 = 33 := by decide
theorem bc_37 : (Int8.ofInt (37)).toInt32 = 37 := by decide
theorem bc_38 : (Int8.ofInt (38)).toInt32 = 38 := by decide
theorem bc_39 : (Int8.ofInt (39)).toInt32 = 39 := by decide
theorem bc_40 : (Int8.ofInt (40)).toInt32 = 40 := by decide
theorem bc_41 : (Int8.ofInt (41)).toInt32 = 41 := by decide
theorem bc_42 : (Int8.ofInt (42)).toInt32 = 42 := by decide
theorem bc_43 : (Int8.ofInt (43)).toInt32 = 43 := by decide
theorem bc_45 : (Int8.ofInt (45)).toInt32 = 45 := by decide
theorem bc_47 : (Int8.ofInt (47)).toInt32 = 47 := by decide
theorem bc_48 : (Int8.ofInt (48)).toInt32 = 48 := by decide
theorem bc_50 : (Int8.ofInt (50)).toInt32 = 50 := by decide
theorem bc_57 : (Int8.ofInt (57)).toInt32 = 57 := by decide
theorem bc_59 : (Int8.ofInt (59)).toInt32 = 59 := by decide
theorem bc_60 : (Int8.ofInt (60)).toInt32 = 60 := by decide
theorem bc_61 : (Int8.ofInt (61)).toInt32 = 61 := by decide
theorem bc_62 : (Int8.ofInt (62)).toInt32 = 62 := by decide
theorem bc_63 : (Int8.ofInt (63)).toInt32 = 63 := by decide
theorem bc_70 : (Int8.ofInt (70)).toInt32 = 70 := by decide
theorem bc_80 : (Int8.ofInt (80)).toInt32 = 80 := by decide
theorem bc_81 : (Int8.ofInt (81)).toInt32 = 81 := by decide
theorem bc_100 : (Int8.ofInt (100)).toInt32 = 100 := by decide
theorem bc_120 : (Int8.ofInt (120)).toInt32 = 120 := by decide
theorem bc_122 : (Int8.ofInt (122)).toInt32 = 122 := by decide
theorem bc_124 : (Int8.ofInt (124)).toInt32 = 124 := by decide
theorem sc_128 : (Int16.ofInt (128)).toInt32 = 128 := by decide
theorem sc_130 : (Int16.ofInt (130)).toInt32 = 130 := by decide
theorem sc_255 : (Int16.ofInt (255)).toInt32 = 255 := by decide
theorem sc_260 : (Int16.ofInt (260)).toInt32 = 260 := by decide
theorem sc_360 : (Int16.ofInt (360)).toInt32 = 360 := by decide
theorem sc_480 : (Int16.ofInt (480)).toInt32 = 480 := by decide
theorem sc_999 : (Int16.ofInt (999)).toInt32 = 999 := by decide
theorem sc_1023 : (Int16.ofInt (1023)).toInt32 = 1023 := by decide
theorem sc_1999 : (Int16.ofInt (1999)).toInt32 = 1999 := by decide
theorem sc_12345 : (Int16.ofInt (12345)).toInt32 = 12345 := by decide
theorem zns100 : zNs 100 100 100 100 := ⟨Nat.le_refl _, Nat.le_refl _, Nat.le_refl _⟩
/-- what holds of a truth value as an int -/
def bi (c : Prop) [Decidable c] : Int32 := if c then 1 else 0
theorem zn_bi {c : Prop} [Decidable c] : narrow .boolean (.int (bi c)) = .int (bi c) := by
  unfold bi; split <;> rfl
theorem zfit_bi {c : Prop} [Decidable c] : fits .boolean (.int (bi c)) = true := by
  unfold bi; split <;> rfl
theorem bi_0 {c : Prop} [Decidable c] : bi c = 0 ↔ ¬ c := by
  unfold bi; split <;> simp_all
theorem bi_n0 {c : Prop} [Decidable c] : ¬ bi c = 0 ↔ c := by
  unfold bi; split <;> simp_all
theorem bi_1 {c : Prop} [Decidable c] : bi c = 1 ↔ c := by
  unfold bi; split <;> simp_all
theorem bi_t {c : Prop} [Decidable c] (h : c) : bi c = 1 := if_pos h
theorem bi_f {c : Prop} [Decidable c] (h : ¬ c) : bi c = 0 := if_neg h
theorem bi_iff {c e : Prop} [Decidable c] [Decidable e] (h : c ↔ e) : bi c = bi e := by
  unfold bi; by_cases h1 : c
  · rw [if_pos h1, if_pos (h.mp h1)]
  · rw [if_neg h1, if_neg (fun q => h1 (h.mpr q))]
theorem zPi {x y : Int32} {w : zW} (h : x = y) : zP (.int y) w (some (.int x)) w := ⟨by rw [h], rfl⟩
theorem zPl {x y : Int64} {w : zW} (h : x = y) : zP (.long y) w (some (.long x)) w := ⟨by rw [h], rfl⟩
theorem zPr {x y : Value} {w : zW} (h : x = y) : zP y w (some x) w := ⟨by rw [h], rfl⟩
/-- a method that leaves the world as it is, behind the constructors -/
abbrev zU (I : Nat → Nat → Int32) (L : Nat → Nat → Int64) (fs : Nat × Nat × Option Nat) : zW := (I, L, zR fs, 100)
abbrev zPure (g : zG) (l : Launch) (d : Nat) (M : zM) (vals : List Value) (I : Nat → Nat → Int32) (L : Nat → Nat → Int64) (fs : Nat × Nat × Option Nat) (x : Value) : Prop := zSp g l d 100 M vals (zU I L fs) (zP x (zU I L fs))
abbrev zA (g : zG) (l : Launch) (d : Nat) (M : zM) (I : Nat → Nat → Int32) (L : Nat → Nat → Int64) (fs : Nat × Nat × Option Nat) (pc : Nat) (lv : List (Nat × Value)) (Q : Option Value → zW → Prop) : Prop := zAW g l d 100 100 M (zU I L fs) pc lv [] Q
/-- a method without an answer; one with an int -/
def zV (P : zW → Prop) : Option Value → zW → Prop := fun v w => v = none ∧ P w
def zX (P : Int32 → zW → Prop) : Option Value → zW → Prop := fun v w => ∃ x : Int32, v = some (.int x) ∧ P x w
section ZG
variable {g : zG} {l : Launch} {d n0 n1 : Nat} {M : zM} {w : zW} {I : Nat → Nat → Int32} {L : Nat → Nat → Int64} {R : Nat → Nat → Option Nat} {n pc q : Nat} {lv : List (Nat × Value)} {st : List Value} {Q : Option Value → zW → Prop}
theorem zCallVV {M' : zM} {idx d' kd len a ar n2 : Nat} {As rest : List Value} {P : zW → Prop} (hd : decode (zmc M) pc = .ok (.invokevirtual idx, 3)) (hl0 : Cond.methodLink (zmo M) idx (zmy M') ∈ zWT) (hk : zMk M' ar) (hi : Cond.instanceMethod (zmy M') ∈ zWT) (hsl : Cond.selects (zmy M').cls (zmy M') (zmy M') ∈ zWT)
    (hS : zSp g l d' n2 M' (.ref a :: As) (I, L, R, n) (zV P)) (hst : st = As.reverse ++ .ref a :: rest) (har : As.length = ar) (hs : zsh a = (kd, len)) (hkd : kd < 13) (hcl : zcR kd = zmo M') (ha : a < n) (hcat : (rest.map fun v => v.category).sum ≤ 8) (hml : zmn M' ≤ 45) (hd' : d' + 1 ≤ d) (hn : zNs n0 n n2 n1) (hq : q = pc + 3)
    (kk : ∀ w', P w' → zAW g l d n0 n1 M w' q lv rest Q) : zAW g l d n0 n1 M (I, L, R, n) pc lv st Q :=
  zCallV hd hl0 hk hi hsl hS hst har hs hkd hcl ha hcat hml hd' hn hq (fun v w' _ h => by obtain ⟨rfl, h⟩ := h; exact kk w' h)
theorem zCallVX {M' : zM} {idx d' kd len a ar n2 : Nat} {As rest : List Value} {P : Int32 → zW → Prop} (hd : decode (zmc M) pc = .ok (.invokevirtual idx, 3)) (hl0 : Cond.methodLink (zmo M) idx (zmy M') ∈ zWT) (hk : zMk M' ar) (hi : Cond.instanceMethod (zmy M') ∈ zWT) (hsl : Cond.selects (zmy M').cls (zmy M') (zmy M') ∈ zWT)
    (hS : zSp g l d' n2 M' (.ref a :: As) (I, L, R, n) (zX P)) (hst : st = As.reverse ++ .ref a :: rest) (har : As.length = ar) (hs : zsh a = (kd, len)) (hkd : kd < 13) (hcl : zcR kd = zmo M') (ha : a < n) (hcat : (rest.map fun v => v.category).sum ≤ 8) (hml : zmn M' ≤ 45) (hd' : d' + 1 ≤ d) (hn : zNs n0 n n2 n1) (hq : q = pc + 3)
    (kk : ∀ x w', P x w' → zAW g l d n0 n1 M w' q lv (.int x :: rest) Q) : zAW g l d n0 n1 M (I, L, R, n) pc lv st Q :=
  zCallV hd hl0 hk hi hsl hS hst har hs hkd hcl ha hcat hml hd' hn hq (fun v w' _ h => by obtain ⟨x, rfl, h⟩ := h; exact kk x w' h)
end ZG
end
section
section ZY
variable {g : zG} {l : Launch} {d n0 n1 : Nat} {M : zM} {w : zW} {I : Nat → Nat → Int32} {L : Nat → Nat → Int64} {R : Nat → Nat → Option Nat} {n pc q : Nat} {lv : List (Nat × Value)} {st : List Value} {Q : Option Value → zW → Prop}
theorem znat_words : nativeFrameWords "java/lang/System" "arraycopy" 5 ≤ 40 := by decide +kernel
theorem zToInt {k : Nat} (h : k < 2 ^ 31) : (nI k).toInt = ((nI k).toNatClampNeg : Int) := by rw [nI_toInt h, nI_clamp h]
theorem zel20 {g : zG} {i : Nat → Int32} {lo : Nat → Int64} {r : Nat → Option Nat} : zel g i lo r 20 = fun j => .int (i j) := rfl
theorem zel21 {g : zG} {i : Nat → Int32} {lo : Nat → Int64} {r : Nat → Option Nat} : zel g i lo r 21 = fun j => .long (lo j) := rfl
theorem zCopyI {idx a0 a len0 len1 i j k : Nat} {x y z : Int32} (hd : decode (zmc M) pc = .ok (.invokestatic idx, 3)) (hl0 : Cond.methodLink (zmo M) idx arraycopyName ∈ zWT) (hs0 : zsh a0 = (20, len0)) (ha0 : a0 < n) (hs1 : zsh a = (20, len1)) (ha : a < n) (hx : x = nI i) (hy : y = nI j) (hz : z = nI k) (h4 : i + k ≤ len0) (h5 : j + k ≤ len1) (h1d : 2 ≤ d) (hcat : (st.map fun v => v.category).sum ≤ 8) (hq : q = pc + 3)
    (kk : zAW g l d n0 n1 M (zup I a (va_cpy (I a0) (I a) i j k), L, R, n) q lv st Q) : zAW g l d n0 n1 M (I, L, R, n) pc lv (.int z :: .int y :: .ref a :: .int x :: .ref a0 :: st) Q := by
  subst hq
  subst hx
  subst hy
  subst hz
  intro p e Rm s m args below meth c H locs ls C hR hL hl
  have g0 : len0 < 1000 := by have := zsh_small a0; rw [hs0] at this; exact this
  have g1 : len1 < 1000 := by have := zsh_small a; rw [hs1] at this; exact this
  obtain ⟨hxc, hb, hml, -, -, -, hown, hts, hSt, ⟨hfr, hlo⟩, -, -⟩ := id C
  have hc0 : H[zgB g + a0]? = some (vp_cell (zgA g 20) (len0, .inl (I a0))) := zcell_a (hR.2.1 a0 ha0) hs0 (by decide)
  have hc1 : H[zgB g + a]? = some (vp_cell (zgA g 20) (len1, .inl (I a))) := zcell_a (hR.2.1 a ha) hs1 (by decide)
  obtain ⟨-, k0, hk0, cm0, hkk0⟩ := (hSt.1.2 0 _ rfl).1 len0 (fun j => .int (I a0 j))
  obtain ⟨-, k1, hk1, cm1, hkk1⟩ := (hSt.1.2 0 _ rfl).1 len1 (fun j => .int (I a j))
  have ee : ((st.map (zrv g)).map fun v => v.category) = st.map fun v => v.category := by rw [List.map_map]; exact List.map_congr_left (fun v _ => zrv_cat g v)
  have ei : (nI i).toNatClampNeg = i := nI_clamp (by omega)
  have ej : (nI j).toNatClampNeg = j := nI_clamp (by omega)
  have ek : (nI k).toNatClampNeg = k := nI_clamp (by omega)
  show W _ _ _ _ _ _ _ _ _ _ _ _ _ _ _ (F0 m pc ls (.int (nI k) :: .int (nI j) :: .ref (zad g a) :: .int (nI i) :: .ref (zad g a0) :: st.map (zrv g)))
  rw [zad_lt hs0 (by decide), zad_lt hs1 (by decide)]
  intro T hT X
  obtain ⟨vm', X', step⟩ := X.arraycopy hxc hown (hts _ hl0) (hts _ na_copy) (hts _ st_copy) (hts _ it_sys) (src := zgB g + a0) (dst := zgB g + a) (cs := vp_cell (zgA g 20) (len0, .inl (I a0))) (cd := vp_cell (zgA g 20) (len1, .inl (I a))) (srcPos := nI i) (destPos := nI j) (n := nI k) (by rw [hT]; exact hc0) (by rw [hT]; exact hc1)
    (fun _ h => by cases h) (fun _ h => by cases h) (fun h => by cases h) (fun h => by cases h) hk0 hk1 hkk0 hkk1 (by rfl) (nI_pos (by omega)) (nI_pos (by omega)) (nI_pos (by omega))
    (by rw [nI_toInt (by omega), nI_toInt (by omega)]; show ¬ _ > ((arrV (zgA g 20) len0 (fun j => .int (I a0 j))).slots.size : Int); rw [arrV_size]; omega)
    (by rw [nI_toInt (by omega), nI_toInt (by omega)]; show ¬ _ > ((arrV (zgA g 20) len1 (fun j => .int (I a j))).slots.size : Int); rw [arrV_size]; omega)
    (fun vm₁ _ t ht => by
      have e : (vp_cell (zgA g 20) (len0, .inl (I a0))).slots.getD ((nI i).toNatClampNeg + t) .null = .int (I a0 ((nI i).toNatClampNeg + t)) := by
        show (arrV (zgA g 20) len0 (fun j => .int (I a0 j))).slots.getD _ _ = _
        rw [Array.getD_eq_getD_getElem?, arrV_read _ _ (by omega)]
        rfl
      refine ⟨?_, ?_⟩
      · rw [e]; rfl
      · rw [e]; exact trivial)
    (g := F0 m pc ls (.int (nI k) :: .int (nI j) :: .ref (zgB g + a) :: .int (nI i) :: .ref (zgB g + a0) :: st.map (zrv g))) rfl (by rw [hml]; exact hl.1) (rest := st.map (zrv g)) rfl (by rw [hb]; exact hd) (Nat.le_trans (by omega) hfr) (by show 2 * 0 + _ + _ ≤ _; rw [ee]; have := znat_words; omega)
  have e1 : copied (vp_cell (zgA g 20) (len0, .inl (I a0))) (vp_cell (zgA g 20) (len1, .inl (I a))) (nI i) (nI j) (nI k) = vp_cell (zgA g 20) (len1, .inl (va_cpy (I a0) (I a) i j k)) := by
    have h : copied (vp_cell (zgA g 20) (len0, .inl (I a0))) (vp_cell (zgA g 20) (len1, .inl (I a))) (nI i) (nI j) (nI k) = vp_cell (zgA g 20) (len1, .inl (va_cpy (I a0) (I a) (nI i).toNatClampNeg (nI j).toNatClampNeg (nI k).toNatClampNeg)) := va_copied (fun z => .int z) (zgA g 20) (zgA g 20) (I a0) (I a) (by rw [ei, ek]; exact h4)
    rw [ei, ej, ek] at h
    exact h
  rw [e1] at X' step
  have hlt : zgB g + a < H.size := (Array.getElem?_eq_some_iff.mp hc1).1
  have hheap : ((T.setVm vm').setCell (zgB g + a) (vp_cell (zgA g 20) (len1, .inl (va_cpy (I a0) (I a) i j k)))).heap = H.setIfInBounds (zgB g + a) (vp_cell (zgA g 20) (len1, .inl (va_cpy (I a0) (I a) i j k))) := by rw [← hT]; rfl
  have oq : ∀ q : Nat, q ≠ zgB g + a → (H.setIfInBounds (zgB g + a) (vp_cell (zgA g 20) (len1, .inl (va_cpy (I a0) (I a) i j k))))[q]? = H[q]? := fun q hq => by simp [Array.getElem?_setIfInBounds, Ne.symm hq]
  have hR' : zRep g (zup I a (va_cpy (I a0) (I a) i j k), L, R, n) (H.setIfInBounds (zgB g + a) (vp_cell (zgA g 20) (len1, .inl (va_cpy (I a0) (I a) i j k)))) :=
    zRep_upI hR ha (by simp) oq (zcell_ai hs1 (by decide) (show (H.setIfInBounds (zgB g + a) _)[zgB g + a]? = some _ by rw [Array.getElem?_setIfInBounds, if_pos rfl, if_pos hlt]; rfl))
  obtain ⟨t, a1, b1⟩ := kk p e Rm s m args below meth c _ _ ls C hR' (fun q hq => by
      rcases List.mem_append.mp hq with h | h
      · exact hL q h
      · obtain ⟨z, -, hz⟩ := List.mem_map.mp h
        rw [← hz]
        exact Nat.le_add_right _ _) hl _ hheap X'
  exact ⟨t, step t a1, b1⟩
theorem zCopyL {idx a0 a len0 len1 i j k : Nat} {x y z : Int32} (hd : decode (zmc M) pc = .ok (.invokestatic idx, 3)) (hl0 : Cond.methodLink (zmo M) idx arraycopyName ∈ zWT) (hs0 : zsh a0 = (21, len0)) (ha0 : a0 < n) (hs1 : zsh a = (21, len1)) (ha : a < n) (hx : x = nI i) (hy : y = nI j) (hz : z = nI k) (h4 : i + k ≤ len0) (h5 : j + k ≤ len1) (h1d : 2 ≤ d) (hcat : (st.map fun v => v.category).sum ≤ 8) (hq : q = pc + 3)
    (kk : zAW g l d n0 n1 M (I, zup L a (va_cpy (L a0) (L a) i j k), R, n) q lv st Q) : zAW g l d n0 n1 M (I, L, R, n) pc lv (.int z :: .int y :: .ref a :: .int x :: .ref a0 :: st) Q := by
  subst hq
  subst hx
  subst hy
  subst hz
  intro p e Rm s m args below meth c H locs ls C hR hL hl
  have g0 : len0 < 1000 := by have := zsh_small a0; rw [hs0] at this; exact this
  have g1 : len1 < 1000 := by have := zsh_small a; rw [hs1] at this; exact this
  obtain ⟨hxc, hb, hml, -, -, -, hown, hts, hSt, ⟨hfr, hlo⟩, -, -⟩ := id C
  have hc0 : H[zgB g + a0]? = some (vp_cell (zgA g 21) (len0, .inr (.inl (L a0)))) := zcell_a (hR.2.1 a0 ha0) hs0 (by decide)
  have hc1 : H[zgB g + a]? = some (vp_cell (zgA g 21) (len1, .inr (.inl (L a)))) := zcell_a (hR.2.1 a ha) hs1 (by decide)
  obtain ⟨-, k0, hk0, cm0, hkk0⟩ := (hSt.1.2 1 _ rfl).1 len0 (fun j => .long (L a0 j))
  obtain ⟨-, k1, hk1, cm1, hkk1⟩ := (hSt.1.2 1 _ rfl).1 len1 (fun j => .long (L a j))
  have ee : ((st.map (zrv g)).map fun v => v.category) = st.map fun v => v.category := by rw [List.map_map]; exact List.map_congr_left (fun v _ => zrv_cat g v)
  have ei : (nI i).toNatClampNeg = i := nI_clamp (by omega)
  have ej : (nI j).toNatClampNeg = j := nI_clamp (by omega)
  have ek : (nI k).toNatClampNeg = k := nI_clamp (by omega)
  show W _ _ _ _ _ _ _ _ _ _ _ _ _ _ _ (F0 m pc ls (.int (nI k) :: .int (nI j) :: .ref (zad g a) :: .int (nI i) :: .ref (zad g a0) :: st.map (zrv g)))
  rw [zad_lt hs0 (by decide), zad_lt hs1 (by decide)]
  intro T hT X
  obtain ⟨vm', X', step⟩ := X.arraycopy hxc hown (hts _ hl0) (hts _ na_copy) (hts _ st_copy) (hts _ it_sys) (src := zgB g + a0) (dst := zgB g + a) (cs := vp_cell (zgA g 21) (len0, .inr (.inl (L a0)))) (cd := vp_cell (zgA g 21) (len1, .inr (.inl (L a)))) (srcPos := nI i) (destPos := nI j) (n := nI k) (by rw [hT]; exact hc0) (by rw [hT]; exact hc1)
    (fun _ h => by cases h) (fun _ h => by cases h) (fun h => by cases h) (fun h => by cases h) hk0 hk1 hkk0 hkk1 (by rfl) (nI_pos (by omega)) (nI_pos (by omega)) (nI_pos (by omega))
    (by rw [nI_toInt (by omega), nI_toInt (by omega)]; show ¬ _ > ((arrV (zgA g 21) len0 (fun j => .long (L a0 j))).slots.size : Int); rw [arrV_size]; omega)
    (by rw [nI_toInt (by omega), nI_toInt (by omega)]; show ¬ _ > ((arrV (zgA g 21) len1 (fun j => .long (L a j))).slots.size : Int); rw [arrV_size]; omega)
    (fun vm₁ _ t ht => by
      have e : (vp_cell (zgA g 21) (len0, .inr (.inl (L a0)))).slots.getD ((nI i).toNatClampNeg + t) .null = .long (L a0 ((nI i).toNatClampNeg + t)) := by
        show (arrV (zgA g 21) len0 (fun j => .long (L a0 j))).slots.getD _ _ = _
        rw [Array.getD_eq_getD_getElem?, arrV_read _ _ (by omega)]
        rfl
      refine ⟨?_, ?_⟩
      · rw [e]; rfl
      · rw [e]; exact trivial)
    (g := F0 m pc ls (.int (nI k) :: .int (nI j) :: .ref (zgB g + a) :: .int (nI i) :: .ref (zgB g + a0) :: st.map (zrv g))) rfl (by rw [hml]; exact hl.1) (rest := st.map (zrv g)) rfl (by rw [hb]; exact hd) (Nat.le_trans (by omega) hfr) (by show 2 * 0 + _ + _ ≤ _; rw [ee]; have := znat_words; omega)
  have e1 : copied (vp_cell (zgA g 21) (len0, .inr (.inl (L a0)))) (vp_cell (zgA g 21) (len1, .inr (.inl (L a)))) (nI i) (nI j) (nI k) = vp_cell (zgA g 21) (len1, .inr (.inl (va_cpy (L a0) (L a) i j k))) := by
    have h : copied (vp_cell (zgA g 21) (len0, .inr (.inl (L a0)))) (vp_cell (zgA g 21) (len1, .inr (.inl (L a)))) (nI i) (nI j) (nI k) = vp_cell (zgA g 21) (len1, .inr (.inl (va_cpy (L a0) (L a) (nI i).toNatClampNeg (nI j).toNatClampNeg (nI k).toNatClampNeg))) := va_copied (fun z => .long z) (zgA g 21) (zgA g 21) (L a0) (L a) (by rw [ei, ek]; exact h4)
    rw [ei, ej, ek] at h
    exact h
  rw [e1] at X' step
  have hlt : zgB g + a < H.size := (Array.getElem?_eq_some_iff.mp hc1).1
  have hheap : ((T.setVm vm').setCell (zgB g + a) (vp_cell (zgA g 21) (len1, .inr (.inl (va_cpy (L a0) (L a) i j k))))).heap = H.setIfInBounds (zgB g + a) (vp_cell (zgA g 21) (len1, .inr (.inl (va_cpy (L a0) (L a) i j k)))) := by rw [← hT]; rfl
  have oq : ∀ q : Nat, q ≠ zgB g + a → (H.setIfInBounds (zgB g + a) (vp_cell (zgA g 21) (len1, .inr (.inl (va_cpy (L a0) (L a) i j k)))))[q]? = H[q]? := fun q hq => by simp [Array.getElem?_setIfInBounds, Ne.symm hq]
  have hR' : zRep g (I, zup L a (va_cpy (L a0) (L a) i j k), R, n) (H.setIfInBounds (zgB g + a) (vp_cell (zgA g 21) (len1, .inr (.inl (va_cpy (L a0) (L a) i j k))))) :=
    zRep_upL hR ha (by simp) oq (zcell_ai hs1 (by decide) (show (H.setIfInBounds (zgB g + a) _)[zgB g + a]? = some _ by rw [Array.getElem?_setIfInBounds, if_pos rfl, if_pos hlt]; rfl))
  obtain ⟨t, a1, b1⟩ := kk p e Rm s m args below meth c _ _ ls C hR' (fun q hq => by
      rcases List.mem_append.mp hq with h | h
      · exact hL q h
      · obtain ⟨z, -, hz⟩ := List.mem_map.mp h
        rw [← hz]
        exact Nat.le_add_right _ _) hl _ hheap X'
  exact ⟨t, step t a1, b1⟩
end ZY
end
section
theorem d_X9_get_0 : decode (zmc m_X9_get) 0 = .ok (.aload_n 0, 1) := by decide +kernel
theorem d_X9_get_1 : decode (zmc m_X9_get) 1 = .ok (.iload_n 1, 1) := by decide +kernel
theorem d_X9_get_2 : decode (zmc m_X9_get) 2 = .ok (.iload_n 2, 1) := by decide +kernel
theorem d_X9_get_3 : decode (zmc m_X9_get) 3 = .ok (.invokevirtual 43, 3) := by decide +kernel
theorem d_X9_get_6 : decode (zmc m_X9_get) 6 = .ok (.ifCond .eq 14, 3) := by decide +kernel
theorem d_X9_get_9 : decode (zmc m_X9_get) 9 = .ok (.aload_n 0, 1) := by decide +kernel
theorem d_X9_get_10 : decode (zmc m_X9_get) 10 = .ok (.getfield 13, 3) := by decide +kernel
theorem d_X9_get_13 : decode (zmc m_X9_get) 13 = .ok (.iload_n 1, 1) := by decide +kernel
theorem d_X9_get_14 : decode (zmc m_X9_get) 14 = .ok (.aaload, 1) := by decide +kernel
theorem d_X9_get_15 : decode (zmc m_X9_get) 15 = .ok (.iload_n 2, 1) := by decide +kernel
theorem d_X9_get_16 : decode (zmc m_X9_get) 16 = .ok (.iaload, 1) := by decide +kernel
theorem d_X9_get_17 : decode (zmc m_X9_get) 17 = .ok (.goto 4, 3) := by decide +kernel
theorem d_X9_get_20 : decode (zmc m_X9_get) 20 = .ok (.iconst 0, 1) := by decide +kernel
theorem d_X9_get_21 : decode (zmc m_X9_get) 21 = .ok (.ireturn, 1) := by decide +kernel
theorem d_X9_has_0 : decode (zmc m_X9_has) 0 = .ok (.iload_n 2, 1) := by decide +kernel
theorem d_X9_has_1 : decode (zmc m_X9_has) 1 = .ok (.ifCond .lt 16, 3) := by decide +kernel
theorem d_X9_has_4 : decode (zmc m_X9_has) 4 = .ok (.iload_n 2, 1) := by decide +kernel
theorem d_X9_has_5 : decode (zmc m_X9_has) 5 = .ok (.aload_n 0, 1) := by decide +kernel
theorem d_X9_has_6 : decode (zmc m_X9_has) 6 = .ok (.iload_n 1, 1) := by decide +kernel
theorem d_X9_has_7 : decode (zmc m_X9_has) 7 = .ok (.invokevirtual 33, 3) := by decide +kernel
theorem d_X9_has_10 : decode (zmc m_X9_has) 10 = .ok (.if_icmp .ge 7, 3) := by decide +kernel
theorem d_X9_has_13 : decode (zmc m_X9_has) 13 = .ok (.iconst 1, 1) := by decide +kernel
theorem d_X9_has_14 : decode (zmc m_X9_has) 14 = .ok (.goto 4, 3) := by decide +kernel
theorem d_X9_has_17 : decode (zmc m_X9_has) 17 = .ok (.iconst 0, 1) := by decide +kernel
theorem d_X9_has_18 : decode (zmc m_X9_has) 18 = .ok (.ireturn, 1) := by decide +kernel
theorem d_X9_holders_0 : decode (zmc m_X9_holders) 0 = .ok (.iload_n 1, 1) := by decide +kernel
theorem d_X9_holders_1 : decode (zmc m_X9_holders) 1 = .ok (.ifCond .lt 9, 3) := by decide +kernel
theorem d_X9_holders_4 : decode (zmc m_X9_holders) 4 = .ok (.iload_n 1, 1) := by decide +kernel
theorem d_X9_holders_5 : decode (zmc m_X9_holders) 5 = .ok (.bipush 12, 2) := by decide +kernel
theorem d_X9_holders_7 : decode (zmc m_X9_holders) 7 = .ok (.if_icmp .lt 5, 3) := by decide +kernel
theorem d_X9_holders_10 : decode (zmc m_X9_holders) 10 = .ok (.iconst 0, 1) := by decide +kernel
theorem d_X9_holders_11 : decode (zmc m_X9_holders) 11 = .ok (.ireturn, 1) := by decide +kernel
theorem d_X9_holders_12 : decode (zmc m_X9_holders) 12 = .ok (.iload_n 1, 1) := by decide +kernel
theorem d_X9_holders_13 : decode (zmc m_X9_holders) 13 = .ok (.iconst 5, 1) := by decide +kernel
theorem d_X9_holders_14 : decode (zmc m_X9_holders) 14 = .ok (.if_icmp .gt 8, 3) := by decide +kernel
theorem d_X9_holders_17 : decode (zmc m_X9_holders) 17 = .ok (.aload_n 0, 1) := by decide +kernel
theorem d_X9_holders_18 : decode (zmc m_X9_holders) 18 = .ok (.getfield 23, 3) := by decide +kernel
theorem d_X9_holders_21 : decode (zmc m_X9_holders) 21 = .ok (.ireturn, 1) := by decide +kernel
theorem d_X9_holders_22 : decode (zmc m_X9_holders) 22 = .ok (.iload_n 1, 1) := by decide +kernel
theorem d_X9_holders_23 : decode (zmc m_X9_holders) 23 = .ok (.bipush 7, 2) := by decide +kernel
theorem d_X9_holders_25 : decode (zmc m_X9_holders) 25 = .ok (.if_icmp .gt 8, 3) := by decide +kernel
theorem d_X9_holders_28 : decode (zmc m_X9_holders) 28 = .ok (.aload_n 0, 1) := by decide +kernel
theorem d_X9_holders_29 : decode (zmc m_X9_holders) 29 = .ok (.getfield 27, 3) := by decide +kernel
theorem d_X9_holders_32 : decode (zmc m_X9_holders) 32 = .ok (.ireturn, 1) := by decide +kernel
theorem d_X9_holders_33 : decode (zmc m_X9_holders) 33 = .ok (.iload_n 1, 1) := by decide +kernel
theorem d_X9_holders_34 : decode (zmc m_X9_holders) 34 = .ok (.bipush 8, 2) := by decide +kernel
theorem d_X9_holders_36 : decode (zmc m_X9_holders) 36 = .ok (.if_icmp .ne 10, 3) := by decide +kernel
theorem d_X9_holders_39 : decode (zmc m_X9_holders) 39 = .ok (.aload_n 0, 1) := by decide +kernel
theorem d_X9_holders_40 : decode (zmc m_X9_holders) 40 = .ok (.getfield 30, 3) := by decide +kernel
theorem d_X9_holders_43 : decode (zmc m_X9_holders) 43 = .ok (.goto 4, 3) := by decide +kernel
theorem d_X9_holders_46 : decode (zmc m_X9_holders) 46 = .ok (.iconst 1, 1) := by decide +kernel
theorem d_X9_holders_47 : decode (zmc m_X9_holders) 47 = .ok (.ireturn, 1) := by decide +kernel
theorem d_X9_mayBe_0 : decode (zmc m_X9_mayBe) 0 = .ok (.iload_n 1, 1) := by decide +kernel
theorem d_X9_mayBe_1 : decode (zmc m_X9_mayBe) 1 = .ok (.ifCond .lt 31, 3) := by decide +kernel
theorem d_X9_mayBe_4 : decode (zmc m_X9_mayBe) 4 = .ok (.iload_n 1, 1) := by decide +kernel
theorem d_X9_mayBe_5 : decode (zmc m_X9_mayBe) 5 = .ok (.bipush 12, 2) := by decide +kernel
theorem d_X9_mayBe_7 : decode (zmc m_X9_mayBe) 7 = .ok (.if_icmp .ge 25, 3) := by decide +kernel
theorem d_X9_mayBe_10 : decode (zmc m_X9_mayBe) 10 = .ok (.iload_n 2, 1) := by decide +kernel
theorem d_X9_mayBe_11 : decode (zmc m_X9_mayBe) 11 = .ok (.getstatic 37, 3) := by decide +kernel
theorem d_X9_mayBe_14 : decode (zmc m_X9_mayBe) 14 = .ok (.iload_n 1, 1) := by decide +kernel
theorem d_X9_mayBe_15 : decode (zmc m_X9_mayBe) 15 = .ok (.iaload, 1) := by decide +kernel
theorem d_X9_mayBe_16 : decode (zmc m_X9_mayBe) 16 = .ok (.if_icmp .lt 16, 3) := by decide +kernel
theorem d_X9_mayBe_19 : decode (zmc m_X9_mayBe) 19 = .ok (.iload_n 2, 1) := by decide +kernel
theorem d_X9_mayBe_20 : decode (zmc m_X9_mayBe) 20 = .ok (.getstatic 40, 3) := by decide +kernel
theorem d_X9_mayBe_23 : decode (zmc m_X9_mayBe) 23 = .ok (.iload_n 1, 1) := by decide +kernel
theorem d_X9_mayBe_24 : decode (zmc m_X9_mayBe) 24 = .ok (.iaload, 1) := by decide +kernel
theorem d_X9_mayBe_25 : decode (zmc m_X9_mayBe) 25 = .ok (.if_icmp .gt 7, 3) := by decide +kernel
theorem d_X9_mayBe_28 : decode (zmc m_X9_mayBe) 28 = .ok (.iconst 1, 1) := by decide +kernel
theorem d_X9_mayBe_29 : decode (zmc m_X9_mayBe) 29 = .ok (.goto 4, 3) := by decide +kernel
theorem d_X9_mayBe_32 : decode (zmc m_X9_mayBe) 32 = .ok (.iconst 0, 1) := by decide +kernel
theorem d_X9_mayBe_33 : decode (zmc m_X9_mayBe) 33 = .ok (.ireturn, 1) := by decide +kernel
theorem d_X9_set_0 : decode (zmc m_X9_set) 0 = .ok (.aload_n 0, 1) := by decide +kernel
theorem d_X9_set_1 : decode (zmc m_X9_set) 1 = .ok (.iload_n 1, 1) := by decide +kernel
theorem d_X9_set_2 : decode (zmc m_X9_set) 2 = .ok (.iload_n 2, 1) := by decide +kernel
theorem d_X9_set_3 : decode (zmc m_X9_set) 3 = .ok (.invokevirtual 43, 3) := by decide +kernel
theorem d_X9_set_6 : decode (zmc m_X9_set) 6 = .ok (.ifCond .eq 12, 3) := by decide +kernel
theorem d_X9_set_9 : decode (zmc m_X9_set) 9 = .ok (.aload_n 0, 1) := by decide +kernel
theorem d_X9_set_10 : decode (zmc m_X9_set) 10 = .ok (.getfield 13, 3) := by decide +kernel
theorem d_X9_set_13 : decode (zmc m_X9_set) 13 = .ok (.iload_n 1, 1) := by decide +kernel
theorem d_X9_set_14 : decode (zmc m_X9_set) 14 = .ok (.aaload, 1) := by decide +kernel
theorem d_X9_set_15 : decode (zmc m_X9_set) 15 = .ok (.iload_n 2, 1) := by decide +kernel
theorem d_X9_set_16 : decode (zmc m_X9_set) 16 = .ok (.iload_n 3, 1) := by decide +kernel
theorem d_X9_set_17 : decode (zmc m_X9_set) 17 = .ok (.iastore, 1) := by decide +kernel
theorem d_X9_set_18 : decode (zmc m_X9_set) 18 = .ok (.return_, 1) := by decide +kernel
theorem d_X9_starIn_0 : decode (zmc m_X9_starIn) 0 = .ok (.iconst 0, 1) := by decide +kernel
theorem d_X9_starIn_1 : decode (zmc m_X9_starIn) 1 = .ok (.istore_n 2, 1) := by decide +kernel
theorem d_X9_starIn_2 : decode (zmc m_X9_starIn) 2 = .ok (.iload_n 2, 1) := by decide +kernel
theorem d_X9_starIn_3 : decode (zmc m_X9_starIn) 3 = .ok (.aload_n 0, 1) := by decide +kernel
theorem d_X9_starIn_4 : decode (zmc m_X9_starIn) 4 = .ok (.getfield 23, 3) := by decide +kernel
theorem d_X9_starIn_7 : decode (zmc m_X9_starIn) 7 = .ok (.if_icmp .ge 23, 3) := by decide +kernel
theorem d_X9_starIn_10 : decode (zmc m_X9_starIn) 10 = .ok (.aload_n 0, 1) := by decide +kernel
theorem d_X9_starIn_11 : decode (zmc m_X9_starIn) 11 = .ok (.getfield 13, 3) := by decide +kernel
theorem d_X9_starIn_14 : decode (zmc m_X9_starIn) 14 = .ok (.iconst 0, 1) := by decide +kernel
theorem d_X9_starIn_15 : decode (zmc m_X9_starIn) 15 = .ok (.aaload, 1) := by decide +kernel
theorem d_X9_starIn_16 : decode (zmc m_X9_starIn) 16 = .ok (.iload_n 2, 1) := by decide +kernel
theorem d_X9_starIn_17 : decode (zmc m_X9_starIn) 17 = .ok (.iaload, 1) := by decide +kernel
theorem d_X9_starIn_18 : decode (zmc m_X9_starIn) 18 = .ok (.iload_n 1, 1) := by decide +kernel
theorem d_X9_starIn_19 : decode (zmc m_X9_starIn) 19 = .ok (.if_icmp .ne 5, 3) := by decide +kernel
theorem d_X9_starIn_22 : decode (zmc m_X9_starIn) 22 = .ok (.iload_n 2, 1) := by decide +kernel
theorem d_X9_starIn_23 : decode (zmc m_X9_starIn) 23 = .ok (.ireturn, 1) := by decide +kernel
theorem d_X9_starIn_24 : decode (zmc m_X9_starIn) 24 = .ok (.iinc 2 1, 3) := by decide +kernel
theorem d_X9_starIn_27 : decode (zmc m_X9_starIn) 27 = .ok (.goto (-25), 3) := by decide +kernel
theorem d_X9_starIn_30 : decode (zmc m_X9_starIn) 30 = .ok (.bipush (-2), 2) := by decide +kernel
theorem d_X9_starIn_32 : decode (zmc m_X9_starIn) 32 = .ok (.ireturn, 1) := by decide +kernel
/-! THE SKY -/
theorem nI1 : nI 1 = 1 := rfl
theorem nle {a b : Nat} (h : nI b ≤ nI a) (ha : a < 2 ^ 31 := by omega) (hb : b < 2 ^ 31 := by omega) : b ≤ a := (nI_leI hb ha).mp h
theorem nnle {a b : Nat} (h : ¬ nI b ≤ nI a) (ha : a < 2 ^ 31 := by omega) (hb : b < 2 ^ 31 := by omega) : a < b := Nat.not_le.mp (fun q => h ((nI_leI hb ha).mpr q))
theorem nlt {a b : Nat} (h : nI a < nI b) (ha : a < 2 ^ 31 := by omega) (hb : b < 2 ^ 31 := by omega) : a < b := (nI_ltI ha hb).mp h
theorem nnlt {a b : Nat} (h : ¬ nI a < nI b) (ha : a < 2 ^ 31 := by omega) (hb : b < 2 ^ 31 := by omega) : b ≤ a := Nat.not_lt.mp (fun q => h ((nI_ltI ha hb).mpr q))
theorem zinc (k : Nat) : nI k + Int32.ofInt 1 = nI (k + 1) := nI_1 k
theorem zn0 {x : Int32} (h : ¬ x < 0) : ∃ j : Nat, j < 2 ^ 31 ∧ x = nI j := nI_of h
/-- an int between 0 and a number -/
theorem zn1 {x : Int32} {n : Nat} (hn : n < 2 ^ 31) (h : 0 ≤ x) (h2 : x < nI n) : ∃ j : Nat, j < n ∧ x = nI j := by
  obtain ⟨j, hj, rfl⟩ := nI_of (x := x) (by intro q; exact absurd h (by simpa using q))
  exact ⟨j, (nI_ltI hj hn).mp h2, rfl⟩
theorem zcl_n {k : Nat} (h : k < 2 ^ 31) : (nI k).toNatClampNeg = k := nI_clamp h
/-- n rounds: f k, from k on -/
def zit {σ : Type} (f : Nat → σ → σ) : Nat → Nat → σ → σ
  | 0, _, s => s
  | m + 1, k, s => zit f m (k + 1) (f k s)
def zfor {σ : Type} (f : Nat → σ → σ) (n k : Nat) (s : σ) : σ := zit f (n - k) k s
theorem zfor_end {σ : Type} {f : Nat → σ → σ} {n k : Nat} {s : σ} (h : n ≤ k) : zfor f n k s = s := by
  unfold zfor; rw [Nat.sub_eq_zero_of_le h]; rfl
theorem zfor_step {σ : Type} {f : Nat → σ → σ} {n k : Nat} {s : σ} (h : k < n) : zfor f n k s = zfor f n (k + 1) (f k s) := by
  unfold zfor
  rw [show n - k = (n - (k + 1)) + 1 by omega]; rfl
theorem zit_congr {σ : Type} {f f' : Nat → σ → σ} : ∀ (m k : Nat) (s : σ), (∀ j t, k ≤ j → j < k + m → f j t = f' j t) → zit f m k s = zit f' m k s
  | 0, _, _, _ => rfl
  | m + 1, k, s, h => by
    show zit f m (k + 1) (f k s) = zit f' m (k + 1) (f' k s)
    rw [h k s (Nat.le_refl _) (by omega)]
    exact zit_congr m (k + 1) _ (fun j t h1 h2 => h j t (by omega) (by omega))
theorem zfor_congr {σ : Type} {f f' : Nat → σ → σ} {n k : Nat} {s : σ} (h : ∀ j t, k ≤ j → j < n → f j t = f' j t) : zfor f n k s = zfor f' n k s :=
  zit_congr _ _ _ (fun j t h1 h2 => h j t h1 (by omega))
/-- the least place from k on, of m, where f is c; -2 -/
def zfd (f : Nat → Int32) (c : Int32) : Nat → Nat → Int32
  | 0, _ => -2
  | m + 1, k => if f k = c then nI k else zfd f c m (k + 1)
def zfind (f : Nat → Int32) (c : Int32) (n k : Nat) : Int32 := zfd f c (n - k) k
theorem zfind_end {f : Nat → Int32} {c : Int32} {n k : Nat} (h : n ≤ k) : zfind f c n k = -2 := by
  unfold zfind; rw [Nat.sub_eq_zero_of_le h]; rfl
theorem zfind_step {f : Nat → Int32} {c : Int32} {n k : Nat} (h : k < n) : zfind f c n k = if f k = c then nI k else zfind f c n (k + 1) := by
  unfold zfind
  rw [show n - k = (n - (k + 1)) + 1 by omega]; rfl
theorem zfind_cases (f : Nat → Int32) (c : Int32) (n : Nat) : ∀ k, k ≤ n → (zfind f c n k = -2 ∧ ∀ j, k ≤ j → j < n → f j ≠ c) ∨ ∃ j, k ≤ j ∧ j < n ∧ f j = c ∧ zfind f c n k = nI j ∧ ∀ i, k ≤ i → i < j → f i ≠ c := by
  intro k hk
  induction h : n - k generalizing k with
  | zero =>
    refine Or.inl ⟨zfind_end (by omega), fun j h1 h2 => by omega⟩
  | succ m ih =>
    rw [zfind_step (by omega)]
    by_cases e : f k = c
    · rw [if_pos e]
      exact Or.inr ⟨k, Nat.le_refl _, by omega, e, rfl, fun i h1 h2 => by omega⟩
    · rw [if_neg e]
      rcases ih (k + 1) (by omega) (by omega) with ⟨h1, h2⟩ | ⟨j, h1, h2, h3, h4, h5⟩
      · refine Or.inl ⟨h1, fun j h3 h4 => ?_⟩
        rcases Nat.eq_or_lt_of_le h3 with rfl | h3
        · exact e
        · exact h2 j h3 h4
      · refine Or.inr ⟨j, by omega, h2, h3, h4, fun i h6 h7 => ?_⟩
        rcases Nat.eq_or_lt_of_le h6 with rfl | h6
        · exact e
        · exact h5 i h6 h7
/-- rounds k .. n, each from the next: to begin with the last -/
theorem zloop {P : Nat → Prop} (n : Nat) (h : ∀ k, k ≤ n → (k < n → P (k + 1)) → P k) : ∀ k, k ≤ n → P k := by
  intro k hk
  induction e : n - k generalizing k with
  | zero => exact h k hk (fun q => by omega)
  | succ m ih => exact h k hk (fun q => ih (k + 1) q (by omega))
def zSky (I : Nat → Nat → Int32) (ns nt nh : Nat) : Prop := (I 1 3 = nI ns ∧ I 1 4 = nI nt ∧ I 1 5 = nI nh) ∧ ns ≤ 10 ∧ nt ≤ 4 ∧ nh ≤ 6
def zHold (ns nt nh : Nat) (w : Int32) : Nat := if w < 0 ∨ 12 ≤ w then 0 else if w ≤ 5 then ns else if w ≤ 7 then nt else if w = 8 then nh else 1
abbrev zMay (what v : Int32) : Prop := (0 ≤ what ∧ what < 12) ∧ zstv 0 what.toNatClampNeg ≤ v ∧ v ≤ zstv 1 what.toNatClampNeg
def zGet (I : Nat → Nat → Int32) (ns nt nh : Nat) (what number : Int32) : Int32 := if 0 ≤ number ∧ number < nI (zHold ns nt nh what) then I (3 + what.toNatClampNeg) number.toNatClampNeg else 0
def zSetI (I : Nat → Nat → Int32) (ns nt nh : Nat) (what number v : Int32) : Nat → Nat → Int32 := if 0 ≤ number ∧ number < nI (zHold ns nt nh what) then zup I (3 + what.toNatClampNeg) (zup (I (3 + what.toNatClampNeg)) number.toNatClampNeg v) else I
theorem zHold_le {ns nt nh : Nat} {w : Int32} (hns : ns ≤ 10) (hnt : nt ≤ 4) (hnh : nh ≤ 6) : zHold ns nt nh w ≤ 10 := by
  unfold zHold; grind
theorem zHold_in {ns nt nh : Nat} {what number : Int32} (hns : ns ≤ 10) (hnt : nt ≤ 4) (hnh : nh ≤ 6) (h : 0 ≤ number ∧ number < nI (zHold ns nt nh what)) : ∃ j k : Nat, j < 12 ∧ k < 10 ∧ k < zHold ns nt nh what ∧ what = nI j ∧ number = nI k := by
  have h10 := zHold_le (w := what) hns hnt hnh
  obtain ⟨k, hk, rfl⟩ := zn1 (by omega) h.1 h.2
  have hw : ¬ (what < 0 ∨ 12 ≤ what) := by
    intro q
    unfold zHold at hk
    rw [if_pos q] at hk
    omega
  obtain ⟨j, hj, rfl⟩ := zn1 (x := what) (n := 12) (by omega) (by grind) (by have : nI 12 = 12 := rfl; grind)
  exact ⟨j, k, hj, by omega, hk, rfl, rfl⟩
theorem sh_num {j : Nat} (h : j < 12) : zsh (3 + j) = (20, 10) := by
  match j, h with
  | 0, _ => rfl
  | 1, _ => rfl
  | 2, _ => rfl
  | 3, _ => rfl
  | 4, _ => rfl
  | 5, _ => rfl
  | 6, _ => rfl
  | 7, _ => rfl
  | 8, _ => rfl
  | 9, _ => rfl
  | 10, _ => rfl
  | 11, _ => rfl
theorem r_num {fs : Nat × Nat × Option Nat} {j : Nat} (h : j < 12) : zR fs 2 j = some (3 + j) := by
  match j, h with
  | 0, _ => rfl
  | 1, _ => rfl
  | 2, _ => rfl
  | 3, _ => rfl
  | 4, _ => rfl
  | 5, _ => rfl
  | 6, _ => rfl
  | 7, _ => rfl
  | 8, _ => rfl
  | 9, _ => rfl
  | 10, _ => rfl
  | 11, _ => rfl
section S8
variable {g : zG} {l : Launch} {d : Nat} {I : Nat → Nat → Int32} {L : Nat → Nat → Int64} {fs : Nat × Nat × Option Nat} {ns nt nh : Nat}
theorem sp_X9_holders (hd : 1 ≤ d) (hK : zSky I ns nt nh) {what : Int32} : zPure g l d m_X9_holders [.ref 1, .int what] I L fs (.int (nI (zHold ns nt nh what))) := by
  obtain ⟨⟨k1, k2, k3⟩, hns, hnt, hnh⟩ := hK
  refine zSp_of (lv := [(0, .ref 1), (1, .int what)]) k_X9_holders rfl (Nat.le_of_ble_eq_true rfl) ?_
  refine zIloadN d_X9_holders_0 rfl rfl (q := 1) rfl ?_
  refine zIf_lt d_X9_holders_1 (tgt := 10) (q := 4) (by decide) rfl (fun h1 => ?_) (fun h1 => ?_)
  · refine zIconst d_X9_holders_10 (v := 0) ic_0 (q := 11) rfl ?_
    refine zIret d_X9_holders_11 rfl rfl rfl ?_
    exact zPi (by grind [zHold, nI_0, nI1])
  · refine zIloadN d_X9_holders_4 rfl rfl (q := 5) rfl ?_
    refine zBipush d_X9_holders_5 (v := 12) bc_12 (q := 7) rfl ?_
    refine zIcmp_lt d_X9_holders_7 (tgt := 12) (q := 10) (by decide) rfl (fun h7 => ?_) (fun h7 => ?_)
    · refine zIloadN d_X9_holders_12 rfl rfl (q := 13) rfl ?_
      refine zIconst d_X9_holders_13 (v := 5) ic_5 (q := 14) rfl ?_
      refine zIcmp_gt d_X9_holders_14 (tgt := 22) (q := 17) (by decide) rfl (fun h14 => ?_) (fun h14 => ?_)
      · refine zIloadN d_X9_holders_22 rfl rfl (q := 23) rfl ?_
        refine zBipush d_X9_holders_23 (v := 7) bc_7 (q := 25) rfl ?_
        refine zIcmp_gt d_X9_holders_25 (tgt := 33) (q := 28) (by decide) rfl (fun h25 => ?_) (fun h25 => ?_)
        · refine zIloadN d_X9_holders_33 rfl rfl (q := 34) rfl ?_
          refine zBipush d_X9_holders_34 (v := 8) bc_8 (q := 36) rfl ?_
          refine zIcmp_ne d_X9_holders_36 (tgt := 46) (q := 39) (by decide) rfl (fun h36 => ?_) (fun h36 => ?_)
          · refine zIconst d_X9_holders_46 (v := 1) ic_1 (q := 47) rfl ?_
            refine zIret d_X9_holders_47 rfl rfl rfl ?_
            exact zPi (by grind [zHold, nI_0, nI1])
          · refine zAloadN d_X9_holders_39 rfl rfl (q := 40) rfl ?_
            refine zGetI d_X9_holders_40 ff_X9_30 sh_1 (by decide) (q := 43) rfl ?_
            refine zGoto d_X9_holders_43 (q := 47) (by decide) ?_
            refine zIret d_X9_holders_47 rfl rfl rfl ?_
            exact zPi (by grind [zHold, nI_0, nI1])
        · refine zAloadN d_X9_holders_28 rfl rfl (q := 29) rfl ?_
          refine zGetI d_X9_holders_29 ff_X9_27 sh_1 (by decide) (q := 32) rfl ?_
          refine zIret d_X9_holders_32 rfl rfl rfl ?_
          exact zPi (by grind [zHold, nI_0, nI1])
      · refine zAloadN d_X9_holders_17 rfl rfl (q := 18) rfl ?_
        refine zGetI d_X9_holders_18 ff_X9_23 sh_1 (by decide) (q := 21) rfl ?_
        refine zIret d_X9_holders_21 rfl rfl rfl ?_
        exact zPi (by grind [zHold, nI_0, nI1])
    · refine zIconst d_X9_holders_10 (v := 0) ic_0 (q := 11) rfl ?_
      refine zIret d_X9_holders_11 rfl rfl rfl ?_
      exact zPi (by grind [zHold, nI_0, nI1])
theorem sp_X9_has (hd : 2 ≤ d) (hK : zSky I ns nt nh) {what number : Int32} : zPure g l d m_X9_has [.ref 1, .int what, .int number] I L fs (.int (bi (0 ≤ number ∧ number < nI (zHold ns nt nh what)))) := by
  refine zSp_of (lv := [(0, .ref 1), (1, .int what), (2, .int number)]) k_X9_has rfl (Nat.le_of_ble_eq_true rfl) ?_
  refine zIloadN d_X9_has_0 rfl rfl (q := 1) rfl ?_
  refine zIf_lt d_X9_has_1 (tgt := 17) (q := 4) (by decide) rfl (fun h1 => ?_) (fun h1 => ?_)
  · refine zIconst d_X9_has_17 (v := 0) ic_0 (q := 18) rfl ?_
    refine zIret d_X9_has_18 rfl rfl rfl ?_
    exact zPi (by unfold bi; grind)
  · refine zIloadN d_X9_has_4 rfl rfl (q := 5) rfl ?_
    refine zAloadN d_X9_has_5 rfl rfl (q := 6) rfl ?_
    refine zIloadN d_X9_has_6 rfl rfl (q := 7) rfl ?_
    refine zCallVP d_X9_has_7 ml_X9_33 k_X9_holders ki_X9_holders ks_X9_holders (sp_X9_holders (d := d - 1) (by omega) hK) rfl rfl sh_1 (by decide) rfl (by decide) (Nat.le_of_ble_eq_true rfl) (by decide) (by omega) zns100 (q := 10) rfl ?_
    refine zIcmp_ge d_X9_has_10 (tgt := 17) (q := 13) (by decide) rfl (fun h10 => ?_) (fun h10 => ?_)
    · refine zIconst d_X9_has_17 (v := 0) ic_0 (q := 18) rfl ?_
      refine zIret d_X9_has_18 rfl rfl rfl ?_
      exact zPi (by unfold bi; grind)
    · refine zIconst d_X9_has_13 (v := 1) ic_1 (q := 14) rfl ?_
      refine zGoto d_X9_has_14 (q := 18) (by decide) ?_
      refine zIret d_X9_has_18 rfl rfl rfl ?_
      exact zPi (by unfold bi; grind)
theorem sp_X9_mayBe (hd : 1 ≤ d) {what v : Int32} : zPure g l d m_X9_mayBe [.ref 1, .int what, .int v] I L fs (.int (bi (zMay what v))) := by
  refine zSp_of (lv := [(0, .ref 1), (1, .int what), (2, .int v)]) k_X9_mayBe rfl (Nat.le_of_ble_eq_true rfl) ?_
  refine zIloadN d_X9_mayBe_0 rfl rfl (q := 1) rfl ?_
  refine zIf_lt d_X9_mayBe_1 (tgt := 32) (q := 4) (by decide) rfl (fun h1 => ?_) (fun h1 => ?_)
  · refine zIconst d_X9_mayBe_32 (v := 0) ic_0 (q := 33) rfl ?_
    refine zIret d_X9_mayBe_33 rfl rfl rfl ?_
    exact zPi (by unfold bi zMay; grind)
  · refine zIloadN d_X9_mayBe_4 rfl rfl (q := 5) rfl ?_
    refine zBipush d_X9_mayBe_5 (v := 12) bc_12 (q := 7) rfl ?_
    refine zIcmp_ge d_X9_mayBe_7 (tgt := 32) (q := 10) (by decide) rfl (fun h7 => ?_) (fun h7 => ?_)
    · refine zIconst d_X9_mayBe_32 (v := 0) ic_0 (q := 33) rfl ?_
      refine zIret d_X9_mayBe_33 rfl rfl rfl ?_
      exact zPi (by unfold bi zMay; grind)
    · obtain ⟨j, hj, hw⟩ := zn1 (x := what) (n := 12) (by omega) (by grind) (by have : nI 12 = 12 := rfl; grind)
      have hc : what.toNatClampNeg = j := by rw [hw]; exact zcl_n (by omega)
      refine zIloadN d_X9_mayBe_10 rfl rfl (q := 11) rfl ?_
      refine zGetS0 d_X9_mayBe_11 fl_X9_37 (q := 14) rfl ?_
      refine zIloadN d_X9_mayBe_14 rfl rfl (q := 15) rfl ?_
      refine zSi0 d_X9_mayBe_15 (k := j) hw hj (q := 16) rfl ?_
      refine zIcmp_lt d_X9_mayBe_16 (tgt := 32) (q := 19) (by decide) rfl (fun h16 => ?_) (fun h16 => ?_)
      · refine zIconst d_X9_mayBe_32 (v := 0) ic_0 (q := 33) rfl ?_
        refine zIret d_X9_mayBe_33 rfl rfl rfl ?_
        exact zPi (by unfold bi zMay; grind)
      · refine zIloadN d_X9_mayBe_19 rfl rfl (q := 20) rfl ?_
        refine zGetS1 d_X9_mayBe_20 fl_X9_40 (q := 23) rfl ?_
        refine zIloadN d_X9_mayBe_23 rfl rfl (q := 24) rfl ?_
        refine zSi1 d_X9_mayBe_24 (k := j) hw hj (q := 25) rfl ?_
        refine zIcmp_gt d_X9_mayBe_25 (tgt := 32) (q := 28) (by decide) rfl (fun h25 => ?_) (fun h25 => ?_)
        · refine zIconst d_X9_mayBe_32 (v := 0) ic_0 (q := 33) rfl ?_
          refine zIret d_X9_mayBe_33 rfl rfl rfl ?_
          exact zPi (by unfold bi zMay; grind)
        · refine zIconst d_X9_mayBe_28 (v := 1) ic_1 (q := 29) rfl ?_
          refine zGoto d_X9_mayBe_29 (q := 33) (by decide) ?_
          refine zIret d_X9_mayBe_33 rfl rfl rfl ?_
          exact zPi (by unfold bi zMay; grind)
theorem sp_X9_get (hd : 3 ≤ d) (hK : zSky I ns nt nh) {what number : Int32} : zPure g l d m_X9_get [.ref 1, .int what, .int number] I L fs (.int (zGet I ns nt nh what number)) := by
  refine zSp_of (lv := [(0, .ref 1), (1, .int what), (2, .int number)]) k_X9_get rfl (Nat.le_of_ble_eq_true rfl) ?_
  refine zAloadN d_X9_get_0 rfl rfl (q := 1) rfl ?_
  refine zIloadN d_X9_get_1 rfl rfl (q := 2) rfl ?_
  refine zIloadN d_X9_get_2 rfl rfl (q := 3) rfl ?_
  refine zCallVP d_X9_get_3 ml_X9_43 k_X9_has ki_X9_has ks_X9_has (sp_X9_has (d := d - 1) (by omega) hK) rfl rfl sh_1 (by decide) rfl (by decide) (Nat.le_of_ble_eq_true rfl) (by decide) (by omega) zns100 (q := 6) rfl ?_
  refine zIf_eq d_X9_get_6 (tgt := 20) (q := 9) (by decide) rfl (fun h6 => ?_) (fun h6 => ?_)
  · refine zIconst d_X9_get_20 (v := 0) ic_0 (q := 21) rfl ?_
    refine zIret d_X9_get_21 rfl rfl rfl ?_
    exact zPi (by unfold zGet; first | (rw [if_pos hh, zcl_n (by omega), zcl_n (by omega)]) | (rw [if_neg (bi_0.mp h6)]))
  · have hh := bi_n0.mp h6
    obtain ⟨j, k, hj, hk, -, rfl, rfl⟩ := zHold_in hK.2.1 hK.2.2.1 hK.2.2.2 hh
    refine zAloadN d_X9_get_9 rfl rfl (q := 10) rfl ?_
    refine zGetR d_X9_get_10 ff_X9_13 sh_1 (by decide) r_1_0 (q := 13) rfl ?_
    refine zIloadN d_X9_get_13 rfl rfl (q := 14) rfl ?_
    refine zAaldII d_X9_get_14 sh_2 (by decide) (j := j) rfl hj (r_num hj) (q := 15) rfl ?_
    refine zIloadN d_X9_get_15 rfl rfl (q := 16) rfl ?_
    refine zIald d_X9_get_16 (sh_num hj) (by omega) (j := k) rfl hk (q := 17) rfl ?_
    refine zGoto d_X9_get_17 (q := 21) (by decide) ?_
    refine zIret d_X9_get_21 rfl rfl rfl ?_
    exact zPi (by unfold zGet; first | (rw [if_pos hh, zcl_n (by omega), zcl_n (by omega)]) | (rw [if_neg (bi_0.mp h6)]))
theorem sp_X9_set (hd : 3 ≤ d) (hK : zSky I ns nt nh) {what number v : Int32} : zSp g l d 100 m_X9_set [.ref 1, .int what, .int number, .int v] (zU I L fs) (zV (fun w => w = zU (zSetI I ns nt nh what number v) L fs)) := by
  refine zSp_of (lv := [(0, .ref 1), (1, .int what), (2, .int number), (3, .int v)]) k_X9_set rfl (Nat.le_of_ble_eq_true rfl) ?_
  refine zAloadN d_X9_set_0 rfl rfl (q := 1) rfl ?_
  refine zIloadN d_X9_set_1 rfl rfl (q := 2) rfl ?_
  refine zIloadN d_X9_set_2 rfl rfl (q := 3) rfl ?_
  refine zCallVP d_X9_set_3 ml_X9_43 k_X9_has ki_X9_has ks_X9_has (sp_X9_has (d := d - 1) (by omega) hK) rfl rfl sh_1 (by decide) rfl (by decide) (Nat.le_of_ble_eq_true rfl) (by decide) (by omega) zns100 (q := 6) rfl ?_
  refine zIf_eq d_X9_set_6 (tgt := 18) (q := 9) (by decide) rfl (fun h6 => ?_) (fun h6 => ?_)
  · refine zVret d_X9_set_18 rfl rfl ?_
    exact ⟨rfl, by unfold zSetI; first | (rw [if_pos hh, zcl_n (by omega), zcl_n (by omega)]) | (rw [if_neg (bi_0.mp h6)])⟩
  · have hh := bi_n0.mp h6
    obtain ⟨j, k, hj, hk, -, rfl, rfl⟩ := zHold_in hK.2.1 hK.2.2.1 hK.2.2.2 hh
    refine zAloadN d_X9_set_9 rfl rfl (q := 10) rfl ?_
    refine zGetR d_X9_set_10 ff_X9_13 sh_1 (by decide) r_1_0 (q := 13) rfl ?_
    refine zIloadN d_X9_set_13 rfl rfl (q := 14) rfl ?_
    refine zAaldII d_X9_set_14 sh_2 (by decide) (j := j) rfl hj (r_num hj) (q := 15) rfl ?_
    refine zIloadN d_X9_set_15 rfl rfl (q := 16) rfl ?_
    refine zIloadN d_X9_set_16 rfl rfl (q := 17) rfl ?_
    refine zIast d_X9_set_17 (sh_num hj) (by omega) (j := k) rfl hk (q := 18) rfl ?_
    refine zVret d_X9_set_18 rfl rfl ?_
    exact ⟨rfl, by unfold zSetI; first | (rw [if_pos hh, zcl_n (by omega), zcl_n (by omega)]) | (rw [if_neg (bi_0.mp h6)])⟩
theorem sp_X9_starIn (hd : 1 ≤ d) (hK : zSky I ns nt nh) {cell : Int32} : zPure g l d m_X9_starIn [.ref 1, .int cell] I L fs (.int (zfind (I 3) cell ns 0)) := by
  obtain ⟨⟨k1, k2, k3⟩, hns, hnt, hnh⟩ := hK
  have loop : ∀ k, k ≤ ns → zfind (I 3) cell ns k = zfind (I 3) cell ns 0 → zA g l d m_X9_starIn I L fs 2 [(2, .int (nI k)), (0, .ref 1), (1, .int cell)] (zP (.int (zfind (I 3) cell ns 0)) (zU I L fs)) := by
    refine zloop ns (fun k hk ih hx => ?_)
    refine zIloadN d_X9_starIn_2 rfl rfl (q := 3) rfl ?_
    refine zAloadN d_X9_starIn_3 rfl rfl (q := 4) rfl ?_
    refine zGetI d_X9_starIn_4 ff_X9_23 sh_1 (by decide) (q := 7) rfl ?_
    refine zIcmp_ge d_X9_starIn_7 (tgt := 30) (q := 10) (by decide) rfl (fun h7 => ?_) (fun h7 => ?_)
    · have e := nle (k1 ▸ h7)
      refine zBipush d_X9_starIn_30 (v := -2) bc_m2 (q := 32) rfl ?_
      refine zIret d_X9_starIn_32 rfl rfl rfl ?_
      exact zPi (by rw [← hx, zfind_end e])
    · have hlt := nnle (k1 ▸ h7)
      rw [zfind_step hlt] at hx
      refine zAloadN d_X9_starIn_10 rfl rfl (q := 11) rfl ?_
      refine zGetR d_X9_starIn_11 ff_X9_13 sh_1 (by decide) r_1_0 (q := 14) rfl ?_
      refine zIconst d_X9_starIn_14 (v := 0) ic_0 (q := 15) rfl ?_
      refine zAaldII d_X9_starIn_15 sh_2 (by decide) (j := 0) rfl (by decide) r_2_0 (q := 16) rfl ?_
      refine zIloadN d_X9_starIn_16 rfl rfl (q := 17) rfl ?_
      refine zIald d_X9_starIn_17 sh_3 (by decide) rfl (by omega) (q := 18) rfl ?_
      refine zIloadN d_X9_starIn_18 rfl rfl (q := 19) rfl ?_
      refine zIcmp_ne d_X9_starIn_19 (tgt := 24) (q := 22) (by decide) rfl (fun h19 => ?_) (fun h19 => ?_)
      · refine zIinc d_X9_starIn_24 rfl (zinc _) (by decide) rfl (q := 27) rfl ?_
        refine zGoto d_X9_starIn_27 (q := 2) (by decide) ?_
        refine zSub [0, 1, 2] rfl ?_
        exact ih hlt (by rw [if_neg h19] at hx; exact hx)
      · refine zIloadN d_X9_starIn_22 rfl rfl (q := 23) rfl ?_
        refine zIret d_X9_starIn_23 rfl rfl rfl ?_
        exact zPi (by rw [← hx, if_pos (by simpa using h19)])
  refine zSp_of (lv := [(0, .ref 1), (1, .int cell)]) k_X9_starIn rfl (Nat.le_of_ble_eq_true rfl) ?_
  refine zIconst d_X9_starIn_0 (v := 0) ic_0 (q := 1) rfl ?_
  refine zIstoreN d_X9_starIn_1 rfl (by decide) rfl (q := 2) rfl ?_
  refine zSub [0, 1, 2] rfl ?_
  exact loop 0 (Nat.zero_le _) rfl
end S8
end
section
theorem d_J6_bitCount_0 : decode (zmc m_J6_bitCount) 0 = .ok (.iload_n 0, 1) := by decide +kernel
theorem d_J6_bitCount_1 : decode (zmc m_J6_bitCount) 1 = .ok (.iload_n 0, 1) := by decide +kernel
theorem d_J6_bitCount_2 : decode (zmc m_J6_bitCount) 2 = .ok (.iconst 1, 1) := by decide +kernel
theorem d_J6_bitCount_3 : decode (zmc m_J6_bitCount) 3 = .ok (.iushr, 1) := by decide +kernel
theorem d_J6_bitCount_4 : decode (zmc m_J6_bitCount) 4 = .ok (.ldc_w 265, 3) := by decide +kernel
theorem d_J6_bitCount_7 : decode (zmc m_J6_bitCount) 7 = .ok (.iand, 1) := by decide +kernel
theorem d_J6_bitCount_8 : decode (zmc m_J6_bitCount) 8 = .ok (.isub, 1) := by decide +kernel
theorem d_J6_bitCount_9 : decode (zmc m_J6_bitCount) 9 = .ok (.istore_n 0, 1) := by decide +kernel
theorem d_J6_bitCount_10 : decode (zmc m_J6_bitCount) 10 = .ok (.iload_n 0, 1) := by decide +kernel
theorem d_J6_bitCount_11 : decode (zmc m_J6_bitCount) 11 = .ok (.ldc_w 266, 3) := by decide +kernel
theorem d_J6_bitCount_14 : decode (zmc m_J6_bitCount) 14 = .ok (.iand, 1) := by decide +kernel
theorem d_J6_bitCount_15 : decode (zmc m_J6_bitCount) 15 = .ok (.iload_n 0, 1) := by decide +kernel
theorem d_J6_bitCount_16 : decode (zmc m_J6_bitCount) 16 = .ok (.iconst 2, 1) := by decide +kernel
theorem d_J6_bitCount_17 : decode (zmc m_J6_bitCount) 17 = .ok (.iushr, 1) := by decide +kernel
theorem d_J6_bitCount_18 : decode (zmc m_J6_bitCount) 18 = .ok (.ldc_w 266, 3) := by decide +kernel
theorem d_J6_bitCount_21 : decode (zmc m_J6_bitCount) 21 = .ok (.iand, 1) := by decide +kernel
theorem d_J6_bitCount_22 : decode (zmc m_J6_bitCount) 22 = .ok (.iadd, 1) := by decide +kernel
theorem d_J6_bitCount_23 : decode (zmc m_J6_bitCount) 23 = .ok (.istore_n 0, 1) := by decide +kernel
theorem d_J6_bitCount_24 : decode (zmc m_J6_bitCount) 24 = .ok (.iload_n 0, 1) := by decide +kernel
theorem d_J6_bitCount_25 : decode (zmc m_J6_bitCount) 25 = .ok (.iload_n 0, 1) := by decide +kernel
theorem d_J6_bitCount_26 : decode (zmc m_J6_bitCount) 26 = .ok (.iconst 4, 1) := by decide +kernel
theorem d_J6_bitCount_27 : decode (zmc m_J6_bitCount) 27 = .ok (.iushr, 1) := by decide +kernel
theorem d_J6_bitCount_28 : decode (zmc m_J6_bitCount) 28 = .ok (.iadd, 1) := by decide +kernel
theorem d_J6_bitCount_29 : decode (zmc m_J6_bitCount) 29 = .ok (.ldc_w 267, 3) := by decide +kernel
theorem d_J6_bitCount_32 : decode (zmc m_J6_bitCount) 32 = .ok (.iand, 1) := by decide +kernel
theorem d_J6_bitCount_33 : decode (zmc m_J6_bitCount) 33 = .ok (.istore_n 0, 1) := by decide +kernel
theorem d_J6_bitCount_34 : decode (zmc m_J6_bitCount) 34 = .ok (.iload_n 0, 1) := by decide +kernel
theorem d_J6_bitCount_35 : decode (zmc m_J6_bitCount) 35 = .ok (.iload_n 0, 1) := by decide +kernel
theorem d_J6_bitCount_36 : decode (zmc m_J6_bitCount) 36 = .ok (.bipush 8, 2) := by decide +kernel
theorem d_J6_bitCount_38 : decode (zmc m_J6_bitCount) 38 = .ok (.iushr, 1) := by decide +kernel
theorem d_J6_bitCount_39 : decode (zmc m_J6_bitCount) 39 = .ok (.iadd, 1) := by decide +kernel
theorem d_J6_bitCount_40 : decode (zmc m_J6_bitCount) 40 = .ok (.istore_n 0, 1) := by decide +kernel
theorem d_J6_bitCount_41 : decode (zmc m_J6_bitCount) 41 = .ok (.iload_n 0, 1) := by decide +kernel
theorem d_J6_bitCount_42 : decode (zmc m_J6_bitCount) 42 = .ok (.iload_n 0, 1) := by decide +kernel
theorem d_J6_bitCount_43 : decode (zmc m_J6_bitCount) 43 = .ok (.bipush 16, 2) := by decide +kernel
theorem d_J6_bitCount_45 : decode (zmc m_J6_bitCount) 45 = .ok (.iushr, 1) := by decide +kernel
theorem d_J6_bitCount_46 : decode (zmc m_J6_bitCount) 46 = .ok (.iadd, 1) := by decide +kernel
theorem d_J6_bitCount_47 : decode (zmc m_J6_bitCount) 47 = .ok (.istore_n 0, 1) := by decide +kernel
theorem d_J6_bitCount_48 : decode (zmc m_J6_bitCount) 48 = .ok (.iload_n 0, 1) := by decide +kernel
theorem d_J6_bitCount_49 : decode (zmc m_J6_bitCount) 49 = .ok (.bipush 63, 2) := by decide +kernel
theorem d_J6_bitCount_51 : decode (zmc m_J6_bitCount) 51 = .ok (.iand, 1) := by decide +kernel
theorem d_J6_bitCount_52 : decode (zmc m_J6_bitCount) 52 = .ok (.ireturn, 1) := by decide +kernel
theorem d_X9_atHand_0 : decode (zmc m_X9_atHand) 0 = .ok (.iconst 1, 1) := by decide +kernel
theorem d_X9_atHand_1 : decode (zmc m_X9_atHand) 1 = .ok (.aload_n 0, 1) := by decide +kernel
theorem d_X9_atHand_2 : decode (zmc m_X9_atHand) 2 = .ok (.getfield 23, 3) := by decide +kernel
theorem d_X9_atHand_5 : decode (zmc m_X9_atHand) 5 = .ok (.ishl, 1) := by decide +kernel
theorem d_X9_atHand_6 : decode (zmc m_X9_atHand) 6 = .ok (.iconst 1, 1) := by decide +kernel
theorem d_X9_atHand_7 : decode (zmc m_X9_atHand) 7 = .ok (.isub, 1) := by decide +kernel
theorem d_X9_atHand_8 : decode (zmc m_X9_atHand) 8 = .ok (.aload_n 0, 1) := by decide +kernel
theorem d_X9_atHand_9 : decode (zmc m_X9_atHand) 9 = .ok (.iconst 5, 1) := by decide +kernel
theorem d_X9_atHand_10 : decode (zmc m_X9_atHand) 10 = .ok (.invokevirtual 61, 3) := by decide +kernel
theorem d_X9_atHand_13 : decode (zmc m_X9_atHand) 13 = .ok (.iconst (-1), 1) := by decide +kernel
theorem d_X9_atHand_14 : decode (zmc m_X9_atHand) 14 = .ok (.ixor, 1) := by decide +kernel
theorem d_X9_atHand_15 : decode (zmc m_X9_atHand) 15 = .ok (.iand, 1) := by decide +kernel
theorem d_X9_atHand_16 : decode (zmc m_X9_atHand) 16 = .ok (.ireturn, 1) := by decide +kernel
theorem d_X9_bits_0 : decode (zmc m_X9_bits) 0 = .ok (.iconst 0, 1) := by decide +kernel
theorem d_X9_bits_1 : decode (zmc m_X9_bits) 1 = .ok (.istore_n 2, 1) := by decide +kernel
theorem d_X9_bits_2 : decode (zmc m_X9_bits) 2 = .ok (.iconst 0, 1) := by decide +kernel
theorem d_X9_bits_3 : decode (zmc m_X9_bits) 3 = .ok (.istore_n 3, 1) := by decide +kernel
theorem d_X9_bits_4 : decode (zmc m_X9_bits) 4 = .ok (.iload_n 3, 1) := by decide +kernel
theorem d_X9_bits_5 : decode (zmc m_X9_bits) 5 = .ok (.aload_n 0, 1) := by decide +kernel
theorem d_X9_bits_6 : decode (zmc m_X9_bits) 6 = .ok (.getfield 23, 3) := by decide +kernel
theorem d_X9_bits_9 : decode (zmc m_X9_bits) 9 = .ok (.if_icmp .ge 24, 3) := by decide +kernel
theorem d_X9_bits_12 : decode (zmc m_X9_bits) 12 = .ok (.aload_n 0, 1) := by decide +kernel
theorem d_X9_bits_13 : decode (zmc m_X9_bits) 13 = .ok (.iload_n 1, 1) := by decide +kernel
theorem d_X9_bits_14 : decode (zmc m_X9_bits) 14 = .ok (.iload_n 3, 1) := by decide +kernel
theorem d_X9_bits_15 : decode (zmc m_X9_bits) 15 = .ok (.invokevirtual 57, 3) := by decide +kernel
theorem d_X9_bits_18 : decode (zmc m_X9_bits) 18 = .ok (.ifCond .eq 9, 3) := by decide +kernel
theorem d_X9_bits_21 : decode (zmc m_X9_bits) 21 = .ok (.iload_n 2, 1) := by decide +kernel
theorem d_X9_bits_22 : decode (zmc m_X9_bits) 22 = .ok (.iconst 1, 1) := by decide +kernel
theorem d_X9_bits_23 : decode (zmc m_X9_bits) 23 = .ok (.iload_n 3, 1) := by decide +kernel
theorem d_X9_bits_24 : decode (zmc m_X9_bits) 24 = .ok (.ishl, 1) := by decide +kernel
theorem d_X9_bits_25 : decode (zmc m_X9_bits) 25 = .ok (.ior, 1) := by decide +kernel
theorem d_X9_bits_26 : decode (zmc m_X9_bits) 26 = .ok (.istore_n 2, 1) := by decide +kernel
theorem d_X9_bits_27 : decode (zmc m_X9_bits) 27 = .ok (.iinc 3 1, 3) := by decide +kernel
theorem d_X9_bits_30 : decode (zmc m_X9_bits) 30 = .ok (.goto (-26), 3) := by decide +kernel
theorem d_X9_bits_33 : decode (zmc m_X9_bits) 33 = .ok (.iload_n 2, 1) := by decide +kernel
theorem d_X9_bits_34 : decode (zmc m_X9_bits) 34 = .ok (.ireturn, 1) := by decide +kernel
theorem d_X9_dropMinute_0 : decode (zmc m_X9_dropMinute) 0 = .ok (.aload_n 0, 1) := by decide +kernel
theorem d_X9_dropMinute_1 : decode (zmc m_X9_dropMinute) 1 = .ok (.bipush 10, 2) := by decide +kernel
theorem d_X9_dropMinute_3 : decode (zmc m_X9_dropMinute) 3 = .ok (.iconst 0, 1) := by decide +kernel
theorem d_X9_dropMinute_4 : decode (zmc m_X9_dropMinute) 4 = .ok (.invokevirtual 57, 3) := by decide +kernel
theorem d_X9_dropMinute_7 : decode (zmc m_X9_dropMinute) 7 = .ok (.iconst 3, 1) := by decide +kernel
theorem d_X9_dropMinute_8 : decode (zmc m_X9_dropMinute) 8 = .ok (.aload_n 0, 1) := by decide +kernel
theorem d_X9_dropMinute_9 : decode (zmc m_X9_dropMinute) 9 = .ok (.iconst 2, 1) := by decide +kernel
theorem d_X9_dropMinute_10 : decode (zmc m_X9_dropMinute) 10 = .ok (.iload_n 1, 1) := by decide +kernel
theorem d_X9_dropMinute_11 : decode (zmc m_X9_dropMinute) 11 = .ok (.invokevirtual 57, 3) := by decide +kernel
theorem d_X9_dropMinute_14 : decode (zmc m_X9_dropMinute) 14 = .ok (.imul, 1) := by decide +kernel
theorem d_X9_dropMinute_15 : decode (zmc m_X9_dropMinute) 15 = .ok (.iadd, 1) := by decide +kernel
theorem d_X9_dropMinute_16 : decode (zmc m_X9_dropMinute) 16 = .ok (.aload_n 0, 1) := by decide +kernel
theorem d_X9_dropMinute_17 : decode (zmc m_X9_dropMinute) 17 = .ok (.iconst 3, 1) := by decide +kernel
theorem d_X9_dropMinute_18 : decode (zmc m_X9_dropMinute) 18 = .ok (.iload_n 1, 1) := by decide +kernel
theorem d_X9_dropMinute_19 : decode (zmc m_X9_dropMinute) 19 = .ok (.invokevirtual 57, 3) := by decide +kernel
theorem d_X9_dropMinute_22 : decode (zmc m_X9_dropMinute) 22 = .ok (.iadd, 1) := by decide +kernel
theorem d_X9_dropMinute_23 : decode (zmc m_X9_dropMinute) 23 = .ok (.aload_n 0, 1) := by decide +kernel
theorem d_X9_dropMinute_24 : decode (zmc m_X9_dropMinute) 24 = .ok (.iconst 1, 1) := by decide +kernel
theorem d_X9_dropMinute_25 : decode (zmc m_X9_dropMinute) 25 = .ok (.iload_n 1, 1) := by decide +kernel
theorem d_X9_dropMinute_26 : decode (zmc m_X9_dropMinute) 26 = .ok (.invokevirtual 57, 3) := by decide +kernel
theorem d_X9_dropMinute_29 : decode (zmc m_X9_dropMinute) 29 = .ok (.isub, 1) := by decide +kernel
theorem d_X9_dropMinute_30 : decode (zmc m_X9_dropMinute) 30 = .ok (.istore_n 2, 1) := by decide +kernel
theorem d_X9_dropMinute_31 : decode (zmc m_X9_dropMinute) 31 = .ok (.iconst 0, 1) := by decide +kernel
theorem d_X9_dropMinute_32 : decode (zmc m_X9_dropMinute) 32 = .ok (.iload_n 2, 1) := by decide +kernel
theorem d_X9_dropMinute_33 : decode (zmc m_X9_dropMinute) 33 = .ok (.invokestatic 68, 3) := by decide +kernel
theorem d_X9_dropMinute_36 : decode (zmc m_X9_dropMinute) 36 = .ok (.ireturn, 1) := by decide +kernel
theorem d_X9_firstToDrop_0 : decode (zmc m_X9_firstToDrop) 0 = .ok (.bipush (-2), 2) := by decide +kernel
theorem d_X9_firstToDrop_2 : decode (zmc m_X9_firstToDrop) 2 = .ok (.istore_n 1, 1) := by decide +kernel
theorem d_X9_firstToDrop_3 : decode (zmc m_X9_firstToDrop) 3 = .ok (.iconst 0, 1) := by decide +kernel
theorem d_X9_firstToDrop_4 : decode (zmc m_X9_firstToDrop) 4 = .ok (.istore_n 2, 1) := by decide +kernel
theorem d_X9_firstToDrop_5 : decode (zmc m_X9_firstToDrop) 5 = .ok (.iload_n 2, 1) := by decide +kernel
theorem d_X9_firstToDrop_6 : decode (zmc m_X9_firstToDrop) 6 = .ok (.aload_n 0, 1) := by decide +kernel
theorem d_X9_firstToDrop_7 : decode (zmc m_X9_firstToDrop) 7 = .ok (.getfield 23, 3) := by decide +kernel
theorem d_X9_firstToDrop_10 : decode (zmc m_X9_firstToDrop) 10 = .ok (.if_icmp .ge 49, 3) := by decide +kernel
theorem d_X9_firstToDrop_13 : decode (zmc m_X9_firstToDrop) 13 = .ok (.iload_n 1, 1) := by decide +kernel
theorem d_X9_firstToDrop_14 : decode (zmc m_X9_firstToDrop) 14 = .ok (.bipush (-2), 2) := by decide +kernel
theorem d_X9_firstToDrop_16 : decode (zmc m_X9_firstToDrop) 16 = .ok (.if_icmp .eq 16, 3) := by decide +kernel
theorem d_X9_firstToDrop_19 : decode (zmc m_X9_firstToDrop) 19 = .ok (.aload_n 0, 1) := by decide +kernel
theorem d_X9_firstToDrop_20 : decode (zmc m_X9_firstToDrop) 20 = .ok (.iload_n 2, 1) := by decide +kernel
theorem d_X9_firstToDrop_21 : decode (zmc m_X9_firstToDrop) 21 = .ok (.invokevirtual 73, 3) := by decide +kernel
theorem d_X9_firstToDrop_24 : decode (zmc m_X9_firstToDrop) 24 = .ok (.aload_n 0, 1) := by decide +kernel
theorem d_X9_firstToDrop_25 : decode (zmc m_X9_firstToDrop) 25 = .ok (.iload_n 1, 1) := by decide +kernel
theorem d_X9_firstToDrop_26 : decode (zmc m_X9_firstToDrop) 26 = .ok (.invokevirtual 73, 3) := by decide +kernel
theorem d_X9_firstToDrop_29 : decode (zmc m_X9_firstToDrop) 29 = .ok (.if_icmp .ge 7, 3) := by decide +kernel
theorem d_X9_firstToDrop_32 : decode (zmc m_X9_firstToDrop) 32 = .ok (.iconst 1, 1) := by decide +kernel
theorem d_X9_firstToDrop_33 : decode (zmc m_X9_firstToDrop) 33 = .ok (.goto 4, 3) := by decide +kernel
theorem d_X9_firstToDrop_36 : decode (zmc m_X9_firstToDrop) 36 = .ok (.iconst 0, 1) := by decide +kernel
theorem d_X9_firstToDrop_37 : decode (zmc m_X9_firstToDrop) 37 = .ok (.istore_n 3, 1) := by decide +kernel
theorem d_X9_firstToDrop_38 : decode (zmc m_X9_firstToDrop) 38 = .ok (.aload_n 0, 1) := by decide +kernel
theorem d_X9_firstToDrop_39 : decode (zmc m_X9_firstToDrop) 39 = .ok (.iconst 4, 1) := by decide +kernel
theorem d_X9_firstToDrop_40 : decode (zmc m_X9_firstToDrop) 40 = .ok (.iload_n 2, 1) := by decide +kernel
theorem d_X9_firstToDrop_41 : decode (zmc m_X9_firstToDrop) 41 = .ok (.invokevirtual 57, 3) := by decide +kernel
theorem d_X9_firstToDrop_44 : decode (zmc m_X9_firstToDrop) 44 = .ok (.ifCond .eq 9, 3) := by decide +kernel
theorem d_X9_firstToDrop_47 : decode (zmc m_X9_firstToDrop) 47 = .ok (.iload_n 3, 1) := by decide +kernel
theorem d_X9_firstToDrop_48 : decode (zmc m_X9_firstToDrop) 48 = .ok (.ifCond .eq 5, 3) := by decide +kernel
theorem d_X9_firstToDrop_51 : decode (zmc m_X9_firstToDrop) 51 = .ok (.iload_n 2, 1) := by decide +kernel
theorem d_X9_firstToDrop_52 : decode (zmc m_X9_firstToDrop) 52 = .ok (.istore_n 1, 1) := by decide +kernel
theorem d_X9_firstToDrop_53 : decode (zmc m_X9_firstToDrop) 53 = .ok (.iinc 2 1, 3) := by decide +kernel
theorem d_X9_firstToDrop_56 : decode (zmc m_X9_firstToDrop) 56 = .ok (.goto (-51), 3) := by decide +kernel
theorem d_X9_firstToDrop_59 : decode (zmc m_X9_firstToDrop) 59 = .ok (.iload_n 1, 1) := by decide +kernel
theorem d_X9_firstToDrop_60 : decode (zmc m_X9_firstToDrop) 60 = .ok (.ireturn, 1) := by decide +kernel
theorem d_X9_goOn_0 : decode (zmc m_X9_goOn) 0 = .ok (.aload_n 0, 1) := by decide +kernel
theorem d_X9_goOn_1 : decode (zmc m_X9_goOn) 1 = .ok (.getfield 20, 3) := by decide +kernel
theorem d_X9_goOn_4 : decode (zmc m_X9_goOn) 4 = .ok (.iconst 4, 1) := by decide +kernel
theorem d_X9_goOn_5 : decode (zmc m_X9_goOn) 5 = .ok (.dup2, 1) := by decide +kernel
theorem d_X9_goOn_6 : decode (zmc m_X9_goOn) 6 = .ok (.iaload, 1) := by decide +kernel
theorem d_X9_goOn_7 : decode (zmc m_X9_goOn) 7 = .ok (.iload_n 1, 1) := by decide +kernel
theorem d_X9_goOn_8 : decode (zmc m_X9_goOn) 8 = .ok (.iadd, 1) := by decide +kernel
theorem d_X9_goOn_9 : decode (zmc m_X9_goOn) 9 = .ok (.iastore, 1) := by decide +kernel
theorem d_X9_goOn_10 : decode (zmc m_X9_goOn) 10 = .ok (.aload_n 0, 1) := by decide +kernel
theorem d_X9_goOn_11 : decode (zmc m_X9_goOn) 11 = .ok (.bipush 9, 2) := by decide +kernel
theorem d_X9_goOn_13 : decode (zmc m_X9_goOn) 13 = .ok (.iconst 0, 1) := by decide +kernel
theorem d_X9_goOn_14 : decode (zmc m_X9_goOn) 14 = .ok (.sipush 999, 3) := by decide +kernel
theorem d_X9_goOn_17 : decode (zmc m_X9_goOn) 17 = .ok (.aload_n 0, 1) := by decide +kernel
theorem d_X9_goOn_18 : decode (zmc m_X9_goOn) 18 = .ok (.bipush 9, 2) := by decide +kernel
theorem d_X9_goOn_20 : decode (zmc m_X9_goOn) 20 = .ok (.iconst 0, 1) := by decide +kernel
theorem d_X9_goOn_21 : decode (zmc m_X9_goOn) 21 = .ok (.invokevirtual 57, 3) := by decide +kernel
theorem d_X9_goOn_24 : decode (zmc m_X9_goOn) 24 = .ok (.iload_n 1, 1) := by decide +kernel
theorem d_X9_goOn_25 : decode (zmc m_X9_goOn) 25 = .ok (.iadd, 1) := by decide +kernel
theorem d_X9_goOn_26 : decode (zmc m_X9_goOn) 26 = .ok (.invokestatic 76, 3) := by decide +kernel
theorem d_X9_goOn_29 : decode (zmc m_X9_goOn) 29 = .ok (.invokevirtual 53, 3) := by decide +kernel
theorem d_X9_goOn_32 : decode (zmc m_X9_goOn) 32 = .ok (.return_, 1) := by decide +kernel
theorem d_X9_isTakenByOther_0 : decode (zmc m_X9_isTakenByOther) 0 = .ok (.aload_n 0, 1) := by decide +kernel
theorem d_X9_isTakenByOther_1 : decode (zmc m_X9_isTakenByOther) 1 = .ok (.iload_n 1, 1) := by decide +kernel
theorem d_X9_isTakenByOther_2 : decode (zmc m_X9_isTakenByOther) 2 = .ok (.invokevirtual 47, 3) := by decide +kernel
theorem d_X9_isTakenByOther_5 : decode (zmc m_X9_isTakenByOther) 5 = .ok (.istore_n 3, 1) := by decide +kernel
theorem d_X9_isTakenByOther_6 : decode (zmc m_X9_isTakenByOther) 6 = .ok (.iload_n 3, 1) := by decide +kernel
theorem d_X9_isTakenByOther_7 : decode (zmc m_X9_isTakenByOther) 7 = .ok (.bipush (-2), 2) := by decide +kernel
theorem d_X9_isTakenByOther_9 : decode (zmc m_X9_isTakenByOther) 9 = .ok (.if_icmp .eq 12, 3) := by decide +kernel
theorem d_X9_isTakenByOther_12 : decode (zmc m_X9_isTakenByOther) 12 = .ok (.iload_n 3, 1) := by decide +kernel
theorem d_X9_isTakenByOther_13 : decode (zmc m_X9_isTakenByOther) 13 = .ok (.iload_n 2, 1) := by decide +kernel
theorem d_X9_isTakenByOther_14 : decode (zmc m_X9_isTakenByOther) 14 = .ok (.if_icmp .eq 7, 3) := by decide +kernel
theorem d_X9_isTakenByOther_17 : decode (zmc m_X9_isTakenByOther) 17 = .ok (.iconst 1, 1) := by decide +kernel
theorem d_X9_isTakenByOther_18 : decode (zmc m_X9_isTakenByOther) 18 = .ok (.goto 4, 3) := by decide +kernel
theorem d_X9_isTakenByOther_21 : decode (zmc m_X9_isTakenByOther) 21 = .ok (.iconst 0, 1) := by decide +kernel
theorem d_X9_isTakenByOther_22 : decode (zmc m_X9_isTakenByOther) 22 = .ok (.ireturn, 1) := by decide +kernel
theorem d_X9_isThrow_0 : decode (zmc m_X9_isThrow) 0 = .ok (.iload_n 1, 1) := by decide +kernel
theorem d_X9_isThrow_1 : decode (zmc m_X9_isThrow) 1 = .ok (.ifCond .lt 32, 3) := by decide +kernel
theorem d_X9_isThrow_4 : decode (zmc m_X9_isThrow) 4 = .ok (.aload_n 0, 1) := by decide +kernel
theorem d_X9_isThrow_5 : decode (zmc m_X9_isThrow) 5 = .ok (.iconst 0, 1) := by decide +kernel
theorem d_X9_isThrow_6 : decode (zmc m_X9_isThrow) 6 = .ok (.iload_n 1, 1) := by decide +kernel
theorem d_X9_isThrow_7 : decode (zmc m_X9_isThrow) 7 = .ok (.bipush 10, 2) := by decide +kernel
theorem d_X9_isThrow_9 : decode (zmc m_X9_isThrow) 9 = .ok (.idiv, 1) := by decide +kernel
theorem d_X9_isThrow_10 : decode (zmc m_X9_isThrow) 10 = .ok (.invokevirtual 43, 3) := by decide +kernel
theorem d_X9_isThrow_13 : decode (zmc m_X9_isThrow) 13 = .ok (.ifCond .eq 20, 3) := by decide +kernel
theorem d_X9_isThrow_16 : decode (zmc m_X9_isThrow) 16 = .ok (.aload_n 0, 1) := by decide +kernel
theorem d_X9_isThrow_17 : decode (zmc m_X9_isThrow) 17 = .ok (.bipush 6, 2) := by decide +kernel
theorem d_X9_isThrow_19 : decode (zmc m_X9_isThrow) 19 = .ok (.iload_n 1, 1) := by decide +kernel
theorem d_X9_isThrow_20 : decode (zmc m_X9_isThrow) 20 = .ok (.bipush 10, 2) := by decide +kernel
theorem d_X9_isThrow_22 : decode (zmc m_X9_isThrow) 22 = .ok (.irem, 1) := by decide +kernel
theorem d_X9_isThrow_23 : decode (zmc m_X9_isThrow) 23 = .ok (.invokevirtual 43, 3) := by decide +kernel
theorem d_X9_isThrow_26 : decode (zmc m_X9_isThrow) 26 = .ok (.ifCond .eq 7, 3) := by decide +kernel
theorem d_X9_isThrow_29 : decode (zmc m_X9_isThrow) 29 = .ok (.iconst 1, 1) := by decide +kernel
theorem d_X9_isThrow_30 : decode (zmc m_X9_isThrow) 30 = .ok (.goto 4, 3) := by decide +kernel
theorem d_X9_isThrow_33 : decode (zmc m_X9_isThrow) 33 = .ok (.iconst 0, 1) := by decide +kernel
theorem d_X9_isThrow_34 : decode (zmc m_X9_isThrow) 34 = .ok (.ireturn, 1) := by decide +kernel
theorem d_X9_placeOnSand_0 : decode (zmc m_X9_placeOnSand) 0 = .ok (.iconst 3, 1) := by decide +kernel
theorem d_X9_placeOnSand_1 : decode (zmc m_X9_placeOnSand) 1 = .ok (.aload_n 0, 1) := by decide +kernel
theorem d_X9_placeOnSand_2 : decode (zmc m_X9_placeOnSand) 2 = .ok (.iconst 0, 1) := by decide +kernel
theorem d_X9_placeOnSand_3 : decode (zmc m_X9_placeOnSand) 3 = .ok (.iload_n 1, 1) := by decide +kernel
theorem d_X9_placeOnSand_4 : decode (zmc m_X9_placeOnSand) 4 = .ok (.invokevirtual 57, 3) := by decide +kernel
theorem d_X9_placeOnSand_7 : decode (zmc m_X9_placeOnSand) 7 = .ok (.bipush 8, 2) := by decide +kernel
theorem d_X9_placeOnSand_9 : decode (zmc m_X9_placeOnSand) 9 = .ok (.irem, 1) := by decide +kernel
theorem d_X9_placeOnSand_10 : decode (zmc m_X9_placeOnSand) 10 = .ok (.imul, 1) := by decide +kernel
theorem d_X9_placeOnSand_11 : decode (zmc m_X9_placeOnSand) 11 = .ok (.aload_n 0, 1) := by decide +kernel
theorem d_X9_placeOnSand_12 : decode (zmc m_X9_placeOnSand) 12 = .ok (.iconst 2, 1) := by decide +kernel
theorem d_X9_placeOnSand_13 : decode (zmc m_X9_placeOnSand) 13 = .ok (.iload_n 1, 1) := by decide +kernel
theorem d_X9_placeOnSand_14 : decode (zmc m_X9_placeOnSand) 14 = .ok (.invokevirtual 57, 3) := by decide +kernel
theorem d_X9_placeOnSand_17 : decode (zmc m_X9_placeOnSand) 17 = .ok (.iadd, 1) := by decide +kernel
theorem d_X9_placeOnSand_18 : decode (zmc m_X9_placeOnSand) 18 = .ok (.bipush 24, 2) := by decide +kernel
theorem d_X9_placeOnSand_20 : decode (zmc m_X9_placeOnSand) 20 = .ok (.irem, 1) := by decide +kernel
theorem d_X9_placeOnSand_21 : decode (zmc m_X9_placeOnSand) 21 = .ok (.ireturn, 1) := by decide +kernel
theorem d_X9_upAfter_0 : decode (zmc m_X9_upAfter) 0 = .ok (.aload_n 0, 1) := by decide +kernel
theorem d_X9_upAfter_1 : decode (zmc m_X9_upAfter) 1 = .ok (.iconst 4, 1) := by decide +kernel
theorem d_X9_upAfter_2 : decode (zmc m_X9_upAfter) 2 = .ok (.invokevirtual 61, 3) := by decide +kernel
theorem d_X9_upAfter_5 : decode (zmc m_X9_upAfter) 5 = .ok (.istore_n 2, 1) := by decide +kernel
theorem d_X9_upAfter_6 : decode (zmc m_X9_upAfter) 6 = .ok (.iconst 0, 1) := by decide +kernel
theorem d_X9_upAfter_7 : decode (zmc m_X9_upAfter) 7 = .ok (.istore_n 3, 1) := by decide +kernel
theorem d_X9_upAfter_8 : decode (zmc m_X9_upAfter) 8 = .ok (.iload_n 3, 1) := by decide +kernel
theorem d_X9_upAfter_9 : decode (zmc m_X9_upAfter) 9 = .ok (.aload_n 0, 1) := by decide +kernel
theorem d_X9_upAfter_10 : decode (zmc m_X9_upAfter) 10 = .ok (.getfield 23, 3) := by decide +kernel
theorem d_X9_upAfter_13 : decode (zmc m_X9_upAfter) 13 = .ok (.if_icmp .ge 26, 3) := by decide +kernel
theorem d_X9_upAfter_16 : decode (zmc m_X9_upAfter) 16 = .ok (.aload_n 0, 1) := by decide +kernel
theorem d_X9_upAfter_17 : decode (zmc m_X9_upAfter) 17 = .ok (.iload_n 3, 1) := by decide +kernel
theorem d_X9_upAfter_18 : decode (zmc m_X9_upAfter) 18 = .ok (.invokevirtual 73, 3) := by decide +kernel
theorem d_X9_upAfter_21 : decode (zmc m_X9_upAfter) 21 = .ok (.iload_n 1, 1) := by decide +kernel
theorem d_X9_upAfter_22 : decode (zmc m_X9_upAfter) 22 = .ok (.if_icmp .gt 11, 3) := by decide +kernel
theorem d_X9_upAfter_25 : decode (zmc m_X9_upAfter) 25 = .ok (.iload_n 2, 1) := by decide +kernel
theorem d_X9_upAfter_26 : decode (zmc m_X9_upAfter) 26 = .ok (.iconst 1, 1) := by decide +kernel
theorem d_X9_upAfter_27 : decode (zmc m_X9_upAfter) 27 = .ok (.iload_n 3, 1) := by decide +kernel
theorem d_X9_upAfter_28 : decode (zmc m_X9_upAfter) 28 = .ok (.ishl, 1) := by decide +kernel
theorem d_X9_upAfter_29 : decode (zmc m_X9_upAfter) 29 = .ok (.iconst (-1), 1) := by decide +kernel
theorem d_X9_upAfter_30 : decode (zmc m_X9_upAfter) 30 = .ok (.ixor, 1) := by decide +kernel
theorem d_X9_upAfter_31 : decode (zmc m_X9_upAfter) 31 = .ok (.iand, 1) := by decide +kernel
theorem d_X9_upAfter_32 : decode (zmc m_X9_upAfter) 32 = .ok (.istore_n 2, 1) := by decide +kernel
theorem d_X9_upAfter_33 : decode (zmc m_X9_upAfter) 33 = .ok (.iinc 3 1, 3) := by decide +kernel
theorem d_X9_upAfter_36 : decode (zmc m_X9_upAfter) 36 = .ok (.goto (-28), 3) := by decide +kernel
theorem d_X9_upAfter_39 : decode (zmc m_X9_upAfter) 39 = .ok (.iload_n 2, 1) := by decide +kernel
theorem d_X9_upAfter_40 : decode (zmc m_X9_upAfter) 40 = .ok (.ireturn, 1) := by decide +kernel
theorem d_X9_waiting_0 : decode (zmc m_X9_waiting) 0 = .ok (.aload_n 0, 1) := by decide +kernel
theorem d_X9_waiting_1 : decode (zmc m_X9_waiting) 1 = .ok (.invokevirtual 64, 3) := by decide +kernel
theorem d_X9_waiting_4 : decode (zmc m_X9_waiting) 4 = .ok (.aload_n 0, 1) := by decide +kernel
theorem d_X9_waiting_5 : decode (zmc m_X9_waiting) 5 = .ok (.iconst 4, 1) := by decide +kernel
theorem d_X9_waiting_6 : decode (zmc m_X9_waiting) 6 = .ok (.invokevirtual 61, 3) := by decide +kernel
theorem d_X9_waiting_9 : decode (zmc m_X9_waiting) 9 = .ok (.iconst (-1), 1) := by decide +kernel
theorem d_X9_waiting_10 : decode (zmc m_X9_waiting) 10 = .ok (.ixor, 1) := by decide +kernel
theorem d_X9_waiting_11 : decode (zmc m_X9_waiting) 11 = .ok (.iand, 1) := by decide +kernel
theorem d_X9_waiting_12 : decode (zmc m_X9_waiting) 12 = .ok (.ireturn, 1) := by decide +kernel
/-! THE SKY, ITS OTHER METHODS -/
theorem zHold_0 {ns nt nh : Nat} : zHold ns nt nh 0 = ns ∧ zHold ns nt nh 1 = ns ∧ zHold ns nt nh 2 = ns ∧ zHold ns nt nh 3 = ns ∧ zHold ns nt nh 4 = ns ∧ zHold ns nt nh 5 = ns ∧ zHold ns nt nh 6 = nt ∧ zHold ns nt nh 7 = nt ∧ zHold ns nt nh 8 = nh ∧ zHold ns nt nh 9 = 1 ∧ zHold ns nt nh 10 = 1 ∧ zHold ns nt nh 11 = 1 := ⟨rfl, rfl, rfl, rfl, rfl, rfl, rfl, rfl, rfl, rfl, rfl, rfl⟩
theorem zcl_lit : (0 : Int32).toNatClampNeg = 0 ∧ (1 : Int32).toNatClampNeg = 1 ∧ (2 : Int32).toNatClampNeg = 2 ∧ (3 : Int32).toNatClampNeg = 3 ∧ (4 : Int32).toNatClampNeg = 4 ∧ (5 : Int32).toNatClampNeg = 5 ∧ (6 : Int32).toNatClampNeg = 6 ∧ (7 : Int32).toNatClampNeg = 7 ∧ (8 : Int32).toNatClampNeg = 8 ∧ (9 : Int32).toNatClampNeg = 9 ∧ (10 : Int32).toNatClampNeg = 10 ∧ (11 : Int32).toNatClampNeg = 11 := ⟨rfl, rfl, rfl, rfl, rfl, rfl, rfl, rfl, rfl, rfl, rfl, rfl⟩
theorem zn_ge {k : Nat} (h : k < 2 ^ 31) : (0 : Int32) ≤ nI k := nI_pos' h
theorem zhas_n {k n : Nat} (h : k < n) (hn : n < 2 ^ 31) : (0 : Int32) ≤ nI k ∧ nI k < nI n := ⟨zn_ge (by omega), (nI_ltI (by omega) hn).mpr h⟩
theorem zGet_n {I : Nat → Nat → Int32} {ns nt nh k n : Nat} {what : Int32} (h : k < n) (hn : n < 2 ^ 31) (e : zHold ns nt nh what = n) : zGet I ns nt nh what (nI k) = I (3 + what.toNatClampNeg) k := by
  unfold zGet
  rw [e, if_pos (zhas_n h hn), zcl_n (by omega)]
theorem zSet_n {I : Nat → Nat → Int32} {ns nt nh k n : Nat} {what v : Int32} (h : k < n) (hn : n < 2 ^ 31) (e : zHold ns nt nh what = n) : zSetI I ns nt nh what (nI k) v = zup I (3 + what.toNatClampNeg) (zup (I (3 + what.toNatClampNeg)) k v) := by
  unfold zSetI
  rw [e, if_pos (zhas_n h hn), zcl_n (by omega)]
/-- what counts of the bits of a number, as the library counts -/
def zus (x y : Int32) : Int32 := (x.toUInt32 >>> (y.toUInt32 &&& Int32.toUInt32 31)).toInt32
def zbc (i : Int32) : Int32 :=
  let a := i - (zus i 1 &&& 1431655765)
  let b := (a &&& 858993459) + (zus a 2 &&& 858993459)
  let c := (b + zus b 4) &&& 252645135
  let e := c + zus c 8
  let f := e + zus e 16
  f &&& 63
/-- the bits of those k below n of which f says so -/
def zbits (f : Nat → Int32) (n : Nat) : Int32 := zfor (fun k s => if f k = 0 then s else s ||| ((1 : Int32) <<< (nI k &&& 31))) n 0 0
def zAtHand (I : Nat → Nat → Int32) (ns : Nat) : Int32 := ((1 : Int32) <<< (nI ns &&& 31) - 1) &&& (zbits (I 8) ns ^^^ (-1))
def zWait (I : Nat → Nat → Int32) (ns : Nat) : Int32 := zAtHand I ns &&& (zbits (I 7) ns ^^^ (-1))
def zDrop (I : Nat → Nat → Int32) (k : Nat) : Int32 := let m := I 13 0 + 3 * I 5 k + I 6 k - I 4 k; if 0 < m then m else 0
def zFirst (I : Nat → Nat → Int32) (ns : Nat) : Int32 := zfor (fun k s => if (s = -2 ∨ zDrop I k < zDrop I s.toNatClampNeg) ∧ ¬ I 7 k = 0 then nI k else s) ns 0 (-2)
def zUpAf (I : Nat → Nat → Int32) (ns : Nat) (m : Int32) : Int32 := zfor (fun k s => if m < zDrop I k then s else s &&& (((1 : Int32) <<< (nI k &&& 31)) ^^^ (-1))) ns 0 (zbits (I 7) ns)
def zPlace (I : Nat → Nat → Int32) (k : Nat) : Int32 := let z := 3 * (I 3 k - I 3 k / 8 * 8) + I 5 k; z - z / 24 * 24
def zGoOn (I : Nat → Nat → Int32) (m : Int32) : Nat → Nat → Int32 := zup (zup I 15 (zup (I 15) 4 (I 15 4 + m))) 12 (zup (I 12) 0 (if I 12 0 + m < 999 then I 12 0 + m else 999))
def zDue (I : Nat → Nat → Int32) (ns : Nat) : Int32 := zbits (I 7) ns &&& (zUpAf I ns (I 12 0) ^^^ (-1))
def zDownUp (due : Int32) (f : Nat → Int32) (ns k : Nat) : Nat → Int32 := zfor (fun k f => if (due >>> (nI k &&& 31)) &&& 1 = 0 then f else zup f k 0) ns k f
def zStarI (I : Nat → Nat → Int32) (ns : Nat) (cell bright sticky : Int32) : Nat → Nat → Int32 := zup (zup (zup (zup (zup I 1 (zup (I 1) 3 (nI (ns + 1)))) 3 (zup (I 3) ns cell)) 4 (zup (I 4) ns bright)) 5 (zup (I 5) ns sticky)) 6 (zup (I 6) ns 5)
theorem zup_zup {α : Type} {f : Nat → α} {k : Nat} {x y : α} : zup (zup f k x) k y = zup f k y := by
  funext j; unfold zup; split <;> rfl
section S9
variable {g : zG} {l : Launch} {d : Nat} {I : Nat → Nat → Int32} {L : Nat → Nat → Int64} {fs : Nat × Nat × Option Nat} {ns nt nh : Nat}
theorem sp_J6_bitCount (hd : 1 ≤ d) {x : Int32} : zPure g l d m_J6_bitCount [.int x] I L fs (.int (zbc x)) := by
  refine zSp_of (lv := [(0, .int x)]) k_J6_bitCount rfl (Nat.le_of_ble_eq_true rfl) ?_
  refine zIloadN d_J6_bitCount_0 rfl rfl (q := 1) rfl ?_
  refine zIloadN d_J6_bitCount_1 rfl rfl (q := 2) rfl ?_
  refine zIconst d_J6_bitCount_2 (v := 1) ic_1 (q := 3) rfl ?_
  refine zIushr d_J6_bitCount_3 (q := 4) rfl ?_
  refine zLdcw d_J6_bitCount_4 co_J6_265 (q := 7) rfl ?_
  refine zIand d_J6_bitCount_7 (q := 8) rfl ?_
  refine zIsub d_J6_bitCount_8 (q := 9) rfl ?_
  refine zIstoreN d_J6_bitCount_9 rfl (by decide) rfl (q := 10) rfl ?_
  refine zIloadN d_J6_bitCount_10 rfl rfl (q := 11) rfl ?_
  refine zLdcw d_J6_bitCount_11 co_J6_266 (q := 14) rfl ?_
  refine zIand d_J6_bitCount_14 (q := 15) rfl ?_
  refine zIloadN d_J6_bitCount_15 rfl rfl (q := 16) rfl ?_
  refine zIconst d_J6_bitCount_16 (v := 2) ic_2 (q := 17) rfl ?_
  refine zIushr d_J6_bitCount_17 (q := 18) rfl ?_
  refine zLdcw d_J6_bitCount_18 co_J6_266 (q := 21) rfl ?_
  refine zIand d_J6_bitCount_21 (q := 22) rfl ?_
  refine zIadd d_J6_bitCount_22 (q := 23) rfl ?_
  refine zIstoreN d_J6_bitCount_23 rfl (by decide) rfl (q := 24) rfl ?_
  refine zIloadN d_J6_bitCount_24 rfl rfl (q := 25) rfl ?_
  refine zIloadN d_J6_bitCount_25 rfl rfl (q := 26) rfl ?_
  refine zIconst d_J6_bitCount_26 (v := 4) ic_4 (q := 27) rfl ?_
  refine zIushr d_J6_bitCount_27 (q := 28) rfl ?_
  refine zIadd d_J6_bitCount_28 (q := 29) rfl ?_
  refine zLdcw d_J6_bitCount_29 co_J6_267 (q := 32) rfl ?_
  refine zIand d_J6_bitCount_32 (q := 33) rfl ?_
  refine zIstoreN d_J6_bitCount_33 rfl (by decide) rfl (q := 34) rfl ?_
  refine zIloadN d_J6_bitCount_34 rfl rfl (q := 35) rfl ?_
  refine zIloadN d_J6_bitCount_35 rfl rfl (q := 36) rfl ?_
  refine zBipush d_J6_bitCount_36 (v := 8) bc_8 (q := 38) rfl ?_
  refine zIushr d_J6_bitCount_38 (q := 39) rfl ?_
  refine zIadd d_J6_bitCount_39 (q := 40) rfl ?_
  refine zIstoreN d_J6_bitCount_40 rfl (by decide) rfl (q := 41) rfl ?_
  refine zIloadN d_J6_bitCount_41 rfl rfl (q := 42) rfl ?_
  refine zIloadN d_J6_bitCount_42 rfl rfl (q := 43) rfl ?_
  refine zBipush d_J6_bitCount_43 (v := 16) bc_16 (q := 45) rfl ?_
  refine zIushr d_J6_bitCount_45 (q := 46) rfl ?_
  refine zIadd d_J6_bitCount_46 (q := 47) rfl ?_
  refine zIstoreN d_J6_bitCount_47 rfl (by decide) rfl (q := 48) rfl ?_
  refine zIloadN d_J6_bitCount_48 rfl rfl (q := 49) rfl ?_
  refine zBipush d_J6_bitCount_49 (v := 63) bc_63 (q := 51) rfl ?_
  refine zIand d_J6_bitCount_51 (q := 52) rfl ?_
  refine zIret d_J6_bitCount_52 rfl rfl rfl ?_
  exact zPi rfl
theorem sp_get0 (hd : 3 ≤ d) (hK : zSky I ns nt nh) {k : Nat} (h : k < ns) : zPure g l d m_X9_get [.ref 1, .int 0, .int (nI k)] I L fs (.int (I 3 k)) := (zGet_n (I := I) (what := 0) h (by have := hK.2; omega) zHold_0.1) ▸ sp_X9_get hd hK
theorem sp_get1 (hd : 3 ≤ d) (hK : zSky I ns nt nh) {k : Nat} (h : k < ns) : zPure g l d m_X9_get [.ref 1, .int 1, .int (nI k)] I L fs (.int (I 4 k)) := (zGet_n (I := I) (what := 1) h (by have := hK.2; omega) rfl) ▸ sp_X9_get hd hK
theorem sp_get2 (hd : 3 ≤ d) (hK : zSky I ns nt nh) {k : Nat} (h : k < ns) : zPure g l d m_X9_get [.ref 1, .int 2, .int (nI k)] I L fs (.int (I 5 k)) := (zGet_n (I := I) (what := 2) h (by have := hK.2; omega) rfl) ▸ sp_X9_get hd hK
theorem sp_get3 (hd : 3 ≤ d) (hK : zSky I ns nt nh) {k : Nat} (h : k < ns) : zPure g l d m_X9_get [.ref 1, .int 3, .int (nI k)] I L fs (.int (I 6 k)) := (zGet_n (I := I) (what := 3) h (by have := hK.2; omega) rfl) ▸ sp_X9_get hd hK
theorem sp_get4 (hd : 3 ≤ d) (hK : zSky I ns nt nh) {k : Nat} (h : k < ns) : zPure g l d m_X9_get [.ref 1, .int 4, .int (nI k)] I L fs (.int (I 7 k)) := (zGet_n (I := I) (what := 4) h (by have := hK.2; omega) rfl) ▸ sp_X9_get hd hK
theorem sp_get5 (hd : 3 ≤ d) (hK : zSky I ns nt nh) {k : Nat} (h : k < ns) : zPure g l d m_X9_get [.ref 1, .int 5, .int (nI k)] I L fs (.int (I 8 k)) := (zGet_n (I := I) (what := 5) h (by have := hK.2; omega) rfl) ▸ sp_X9_get hd hK
theorem sp_get6 (hd : 3 ≤ d) (hK : zSky I ns nt nh) {k : Nat} (h : k < nt) : zPure g l d m_X9_get [.ref 1, .int 6, .int (nI k)] I L fs (.int (I 9 k)) := (zGet_n (I := I) (what := 6) h (by have := hK.2; omega) rfl) ▸ sp_X9_get hd hK
theorem sp_get7 (hd : 3 ≤ d) (hK : zSky I ns nt nh) {k : Nat} (h : k < nt) : zPure g l d m_X9_get [.ref 1, .int 7, .int (nI k)] I L fs (.int (I 10 k)) := (zGet_n (I := I) (what := 7) h (by have := hK.2; omega) rfl) ▸ sp_X9_get hd hK
theorem sp_get9 (hd : 3 ≤ d) (hK : zSky I ns nt nh) : zPure g l d m_X9_get [.ref 1, .int 9, .int 0] I L fs (.int (I 12 0)) := (zGet_n (I := I) (what := 9) (k := 0) (n := 1) (by omega) (by omega) rfl) ▸ sp_X9_get (number := 0) hd hK
theorem sp_get10 (hd : 3 ≤ d) (hK : zSky I ns nt nh) : zPure g l d m_X9_get [.ref 1, .int 10, .int 0] I L fs (.int (I 13 0)) := (zGet_n (I := I) (what := 10) (k := 0) (n := 1) (by omega) (by omega) rfl) ▸ sp_X9_get (number := 0) hd hK
theorem sp_get11 (hd : 3 ≤ d) (hK : zSky I ns nt nh) : zPure g l d m_X9_get [.ref 1, .int 11, .int 0] I L fs (.int (I 14 0)) := (zGet_n (I := I) (what := 11) (k := 0) (n := 1) (by omega) (by omega) rfl) ▸ sp_X9_get (number := 0) hd hK
theorem sp_set0 (hd : 3 ≤ d) (hK : zSky I ns nt nh) {k : Nat} {v : Int32} (h : k < ns) : zSp g l d 100 m_X9_set [.ref 1, .int 0, .int (nI k), .int v] (zU I L fs) (zV (fun w => w = zU (zup I 3 (zup (I 3) k v)) L fs)) := (zSet_n (I := I) (v := v) (what := 0) h (by have := hK.2; omega) zHold_0.1) ▸ sp_X9_set hd hK
theorem sp_set1 (hd : 3 ≤ d) (hK : zSky I ns nt nh) {k : Nat} {v : Int32} (h : k < ns) : zSp g l d 100 m_X9_set [.ref 1, .int 1, .int (nI k), .int v] (zU I L fs) (zV (fun w => w = zU (zup I 4 (zup (I 4) k v)) L fs)) := (zSet_n (I := I) (v := v) (what := 1) h (by have := hK.2; omega) rfl) ▸ sp_X9_set hd hK
theorem sp_set2 (hd : 3 ≤ d) (hK : zSky I ns nt nh) {k : Nat} {v : Int32} (h : k < ns) : zSp g l d 100 m_X9_set [.ref 1, .int 2, .int (nI k), .int v] (zU I L fs) (zV (fun w => w = zU (zup I 5 (zup (I 5) k v)) L fs)) := (zSet_n (I := I) (v := v) (what := 2) h (by have := hK.2; omega) rfl) ▸ sp_X9_set hd hK
theorem sp_set3 (hd : 3 ≤ d) (hK : zSky I ns nt nh) {k : Nat} {v : Int32} (h : k < ns) : zSp g l d 100 m_X9_set [.ref 1, .int 3, .int (nI k), .int v] (zU I L fs) (zV (fun w => w = zU (zup I 6 (zup (I 6) k v)) L fs)) := (zSet_n (I := I) (v := v) (what := 3) h (by have := hK.2; omega) rfl) ▸ sp_X9_set hd hK
theorem sp_set4 (hd : 3 ≤ d) (hK : zSky I ns nt nh) {k : Nat} {v : Int32} (h : k < ns) : zSp g l d 100 m_X9_set [.ref 1, .int 4, .int (nI k), .int v] (zU I L fs) (zV (fun w => w = zU (zup I 7 (zup (I 7) k v)) L fs)) := (zSet_n (I := I) (v := v) (what := 4) h (by have := hK.2; omega) rfl) ▸ sp_X9_set hd hK
theorem sp_set5 (hd : 3 ≤ d) (hK : zSky I ns nt nh) {k : Nat} {v : Int32} (h : k < ns) : zSp g l d 100 m_X9_set [.ref 1, .int 5, .int (nI k), .int v] (zU I L fs) (zV (fun w => w = zU (zup I 8 (zup (I 8) k v)) L fs)) := (zSet_n (I := I) (v := v) (what := 5) h (by have := hK.2; omega) rfl) ▸ sp_X9_set hd hK
theorem sp_set6 (hd : 3 ≤ d) (hK : zSky I ns nt nh) {k : Nat} {v : Int32} (h : k < nt) : zSp g l d 100 m_X9_set [.ref 1, .int 6, .int (nI k), .int v] (zU I L fs) (zV (fun w => w = zU (zup I 9 (zup (I 9) k v)) L fs)) := (zSet_n (I := I) (v := v) (what := 6) h (by have := hK.2; omega) rfl) ▸ sp_X9_set hd hK
theorem sp_set7 (hd : 3 ≤ d) (hK : zSky I ns nt nh) {k : Nat} {v : Int32} (h : k < nt) : zSp g l d 100 m_X9_set [.ref 1, .int 7, .int (nI k), .int v] (zU I L fs) (zV (fun w => w = zU (zup I 10 (zup (I 10) k v)) L fs)) := (zSet_n (I := I) (v := v) (what := 7) h (by have := hK.2; omega) rfl) ▸ sp_X9_set hd hK
theorem sp_set8 (hd : 3 ≤ d) (hK : zSky I ns nt nh) {k : Nat} {v : Int32} (h : k < nh) : zSp g l d 100 m_X9_set [.ref 1, .int 8, .int (nI k), .int v] (zU I L fs) (zV (fun w => w = zU (zup I 11 (zup (I 11) k v)) L fs)) := (zSet_n (I := I) (v := v) (what := 8) h (by have := hK.2; omega) rfl) ▸ sp_X9_set hd hK
theorem sp_set9 (hd : 3 ≤ d) (hK : zSky I ns nt nh) {v : Int32} : zSp g l d 100 m_X9_set [.ref 1, .int 9, .int 0, .int v] (zU I L fs) (zV (fun w => w = zU (zup I 12 (zup (I 12) 0 v)) L fs)) := (zSet_n (I := I) (v := v) (what := 9) (k := 0) (n := 1) (by omega) (by omega) rfl) ▸ sp_X9_set (number := 0) hd hK
theorem sp_set11 (hd : 3 ≤ d) (hK : zSky I ns nt nh) {v : Int32} : zSp g l d 100 m_X9_set [.ref 1, .int 11, .int 0, .int v] (zU I L fs) (zV (fun w => w = zU (zup I 14 (zup (I 14) 0 v)) L fs)) := (zSet_n (I := I) (v := v) (what := 11) (k := 0) (n := 1) (by omega) (by omega) rfl) ▸ sp_X9_set (number := 0) hd hK
theorem zSky_up {a : Nat} {f : Nat → Int32} (hK : zSky I ns nt nh) (h : a ≠ 1) : zSky (zup I a f) ns nt nh := by
  unfold zSky
  rw [zup_ne (f := I) (Ne.symm h)]
  exact hK
theorem sp_X9_isThrow (hd : 3 ≤ d) (hK : zSky I ns nt nh) {st : Int32} : zPure g l d m_X9_isThrow [.ref 1, .int st] I L fs (.int (bi (0 ≤ st ∧ st / 10 < nI ns ∧ st - st / 10 * 10 < nI nt))) := by
  have e0 : zHold ns nt nh 0 = ns := rfl
  have e6 : zHold ns nt nh 6 = nt := rfl
  refine zSp_of (lv := [(0, .ref 1), (1, .int st)]) k_X9_isThrow rfl (Nat.le_of_ble_eq_true rfl) ?_
  refine zIloadN d_X9_isThrow_0 rfl rfl (q := 1) rfl ?_
  refine zIf_lt d_X9_isThrow_1 (tgt := 33) (q := 4) (by decide) rfl (fun h1 => ?_) (fun h1 => ?_)
  · refine zIconst d_X9_isThrow_33 (v := 0) ic_0 (q := 34) rfl ?_
    refine zIret d_X9_isThrow_34 rfl rfl rfl ?_
    first | exact zPi (bi_t ⟨zn_ge hj, (bi_n0.mp h13).2, (bi_n0.mp h26).2⟩).symm | exact zPi (bi_f (fun q => bi_0.mp h26 ⟨hr0, q.2.2⟩)).symm | exact zPi (bi_f (fun q => bi_0.mp h13 ⟨hq0, q.2.1⟩)).symm | exact zPi (bi_f (fun q => by have := q.1; grind)).symm
  · obtain ⟨j, hj, rfl⟩ := zn0 h1
    have hq : nI j / 10 = nI (j / 10) := pk_div hj (by decide) (by decide)
    have hr : nI j - nI j / 10 * 10 = nI (j % 10) := pk_rem hj (by decide) (by decide)
    have hq0 : (0 : Int32) ≤ nI j / 10 := by rw [hq]; exact zn_ge (by omega)
    have hr0 : (0 : Int32) ≤ nI j - nI j / 10 * 10 := by rw [hr]; exact zn_ge (by omega)
    refine zAloadN d_X9_isThrow_4 rfl rfl (q := 5) rfl ?_
    refine zIconst d_X9_isThrow_5 (v := 0) ic_0 (q := 6) rfl ?_
    refine zIloadN d_X9_isThrow_6 rfl rfl (q := 7) rfl ?_
    refine zBipush d_X9_isThrow_7 (v := 10) bc_10 (q := 9) rfl ?_
    refine zIdiv d_X9_isThrow_9 (by decide) (q := 10) rfl ?_
    refine zCallVP d_X9_isThrow_10 ml_X9_43 k_X9_has ki_X9_has ks_X9_has (sp_X9_has (d := d - 1) (by omega) hK) rfl rfl sh_1 (by decide) rfl (by decide) (Nat.le_of_ble_eq_true rfl) (by decide) (by omega) zns100 (q := 13) rfl ?_
    refine zIf_eq d_X9_isThrow_13 (tgt := 33) (q := 16) (by decide) rfl (fun h13 => ?_) (fun h13 => ?_)
    · refine zIconst d_X9_isThrow_33 (v := 0) ic_0 (q := 34) rfl ?_
      refine zIret d_X9_isThrow_34 rfl rfl rfl ?_
      first | exact zPi (bi_t ⟨zn_ge hj, (bi_n0.mp h13).2, (bi_n0.mp h26).2⟩).symm | exact zPi (bi_f (fun q => bi_0.mp h26 ⟨hr0, q.2.2⟩)).symm | exact zPi (bi_f (fun q => bi_0.mp h13 ⟨hq0, q.2.1⟩)).symm | exact zPi (bi_f (fun q => by have := q.1; grind)).symm
    · refine zAloadN d_X9_isThrow_16 rfl rfl (q := 17) rfl ?_
      refine zBipush d_X9_isThrow_17 (v := 6) bc_6 (q := 19) rfl ?_
      refine zIloadN d_X9_isThrow_19 rfl rfl (q := 20) rfl ?_
      refine zBipush d_X9_isThrow_20 (v := 10) bc_10 (q := 22) rfl ?_
      refine zIrem d_X9_isThrow_22 (by decide) (q := 23) rfl ?_
      refine zCallVP d_X9_isThrow_23 ml_X9_43 k_X9_has ki_X9_has ks_X9_has (sp_X9_has (d := d - 1) (by omega) hK) rfl rfl sh_1 (by decide) rfl (by decide) (Nat.le_of_ble_eq_true rfl) (by decide) (by omega) zns100 (q := 26) rfl ?_
      refine zIf_eq d_X9_isThrow_26 (tgt := 33) (q := 29) (by decide) rfl (fun h26 => ?_) (fun h26 => ?_)
      · refine zIconst d_X9_isThrow_33 (v := 0) ic_0 (q := 34) rfl ?_
        refine zIret d_X9_isThrow_34 rfl rfl rfl ?_
        first | exact zPi (bi_t ⟨zn_ge hj, (bi_n0.mp h13).2, (bi_n0.mp h26).2⟩).symm | exact zPi (bi_f (fun q => bi_0.mp h26 ⟨hr0, q.2.2⟩)).symm | exact zPi (bi_f (fun q => bi_0.mp h13 ⟨hq0, q.2.1⟩)).symm | exact zPi (bi_f (fun q => by have := q.1; grind)).symm
      · refine zIconst d_X9_isThrow_29 (v := 1) ic_1 (q := 30) rfl ?_
        refine zGoto d_X9_isThrow_30 (q := 34) (by decide) ?_
        refine zIret d_X9_isThrow_34 rfl rfl rfl ?_
        first | exact zPi (bi_t ⟨zn_ge hj, (bi_n0.mp h13).2, (bi_n0.mp h26).2⟩).symm | exact zPi (bi_f (fun q => bi_0.mp h26 ⟨hr0, q.2.2⟩)).symm | exact zPi (bi_f (fun q => bi_0.mp h13 ⟨hq0, q.2.1⟩)).symm | exact zPi (bi_f (fun q => by have := q.1; grind)).symm
theorem sp_X9_isTakenByOther (hd : 2 ≤ d) (hK : zSky I ns nt nh) {cell star : Int32} : zPure g l d m_X9_isTakenByOther [.ref 1, .int cell, .int star] I L fs (.int (bi (¬ zfind (I 3) cell ns 0 = -2 ∧ ¬ zfind (I 3) cell ns 0 = star))) := by
  refine zSp_of (lv := [(0, .ref 1), (1, .int cell), (2, .int star)]) k_X9_isTakenByOther rfl (Nat.le_of_ble_eq_true rfl) ?_
  refine zAloadN d_X9_isTakenByOther_0 rfl rfl (q := 1) rfl ?_
  refine zIloadN d_X9_isTakenByOther_1 rfl rfl (q := 2) rfl ?_
  refine zCallVP d_X9_isTakenByOther_2 ml_X9_47 k_X9_starIn ki_X9_starIn ks_X9_starIn (sp_X9_starIn (d := d - 1) (by omega) hK) rfl rfl sh_1 (by decide) rfl (by decide) (Nat.le_of_ble_eq_true rfl) (by decide) (by omega) zns100 (q := 5) rfl ?_
  refine zIstoreN d_X9_isTakenByOther_5 rfl (by decide) rfl (q := 6) rfl ?_
  refine zIloadN d_X9_isTakenByOther_6 rfl rfl (q := 7) rfl ?_
  refine zBipush d_X9_isTakenByOther_7 (v := -2) bc_m2 (q := 9) rfl ?_
  refine zIcmp_eq d_X9_isTakenByOther_9 (tgt := 21) (q := 12) (by decide) rfl (fun h9 => ?_) (fun h9 => ?_)
  · refine zIconst d_X9_isTakenByOther_21 (v := 0) ic_0 (q := 22) rfl ?_
    refine zIret d_X9_isTakenByOther_22 rfl rfl rfl ?_
    exact zPi (by unfold bi; grind)
  · refine zIloadN d_X9_isTakenByOther_12 rfl rfl (q := 13) rfl ?_
    refine zIloadN d_X9_isTakenByOther_13 rfl rfl (q := 14) rfl ?_
    refine zIcmp_eq d_X9_isTakenByOther_14 (tgt := 21) (q := 17) (by decide) rfl (fun h14 => ?_) (fun h14 => ?_)
    · refine zIconst d_X9_isTakenByOther_21 (v := 0) ic_0 (q := 22) rfl ?_
      refine zIret d_X9_isTakenByOther_22 rfl rfl rfl ?_
      exact zPi (by unfold bi; grind)
    · refine zIconst d_X9_isTakenByOther_17 (v := 1) ic_1 (q := 18) rfl ?_
      refine zGoto d_X9_isTakenByOther_18 (q := 22) (by decide) ?_
      refine zIret d_X9_isTakenByOther_22 rfl rfl rfl ?_
      exact zPi (by unfold bi; grind)
theorem sp_X9_bits4 (hd : 4 ≤ d) (hK : zSky I ns nt nh) : zPure g l d m_X9_bits [.ref 1, .int 4] I L fs (.int (zbits (I 7) ns)) := by
  have hn := hK.2.1
  have loop : ∀ k, k ≤ ns → ∀ s, zfor (fun k s => if I 7 k = 0 then s else s ||| ((1 : Int32) <<< (nI k &&& 31))) ns k s = zbits (I 7) ns → zA g l d m_X9_bits I L fs 4 [(3, .int (nI k)), (2, .int s), (0, .ref 1), (1, .int 4)] (zP (.int (zbits (I 7) ns)) (zU I L fs)) := by
    refine zloop ns (fun k hk ih s hx => ?_)
    refine zIloadN d_X9_bits_4 rfl rfl (q := 5) rfl ?_
    refine zAloadN d_X9_bits_5 rfl rfl (q := 6) rfl ?_
    refine zGetI d_X9_bits_6 ff_X9_23 sh_1 (by decide) (q := 9) rfl ?_
    refine zIcmp_ge d_X9_bits_9 (tgt := 33) (q := 12) (by decide) rfl (fun h9 => ?_) (fun h9 => ?_)
    · have e := nle (hK.1.1 ▸ h9)
      refine zIloadN d_X9_bits_33 rfl rfl (q := 34) rfl ?_
      refine zIret d_X9_bits_34 rfl rfl rfl ?_
      exact zPi (by rw [← hx, zfor_end e])
    · have hlt := nnle (hK.1.1 ▸ h9)
      rw [zfor_step hlt] at hx
      refine zAloadN d_X9_bits_12 rfl rfl (q := 13) rfl ?_
      refine zIloadN d_X9_bits_13 rfl rfl (q := 14) rfl ?_
      refine zIloadN d_X9_bits_14 rfl rfl (q := 15) rfl ?_
      refine zCallVP d_X9_bits_15 ml_X9_57 k_X9_get ki_X9_get ks_X9_get (sp_get4 (d := d - 1) (by omega) hK hlt) rfl rfl sh_1 (by decide) rfl (by decide) (Nat.le_of_ble_eq_true rfl) (by decide) (by omega) zns100 (q := 18) rfl ?_
      refine zIf_eq d_X9_bits_18 (tgt := 27) (q := 21) (by decide) rfl (fun h18 => ?_) (fun h18 => ?_)
      · refine zIinc d_X9_bits_27 rfl (zinc _) (by decide) rfl (q := 30) rfl ?_
        refine zGoto d_X9_bits_30 (q := 4) (by decide) ?_
        refine zSub [0, 1, 2, 3] rfl ?_
        exact ih hlt _ (by rw [← hx]; congr 1; simp_all)
      · refine zIloadN d_X9_bits_21 rfl rfl (q := 22) rfl ?_
        refine zIconst d_X9_bits_22 (v := 1) ic_1 (q := 23) rfl ?_
        refine zIloadN d_X9_bits_23 rfl rfl (q := 24) rfl ?_
        refine zIshl d_X9_bits_24 (q := 25) rfl ?_
        refine zIor d_X9_bits_25 (q := 26) rfl ?_
        refine zIstoreN d_X9_bits_26 rfl (by decide) rfl (q := 27) rfl ?_
        refine zIinc d_X9_bits_27 rfl (zinc _) (by decide) rfl (q := 30) rfl ?_
        refine zGoto d_X9_bits_30 (q := 4) (by decide) ?_
        refine zSub [0, 1, 2, 3] rfl ?_
        exact ih hlt _ (by rw [← hx]; congr 1; simp_all)
  refine zSp_of (lv := [(0, .ref 1), (1, .int 4)]) k_X9_bits rfl (Nat.le_of_ble_eq_true rfl) ?_
  refine zIconst d_X9_bits_0 (v := 0) ic_0 (q := 1) rfl ?_
  refine zIstoreN d_X9_bits_1 rfl (by decide) rfl (q := 2) rfl ?_
  refine zIconst d_X9_bits_2 (v := 0) ic_0 (q := 3) rfl ?_
  refine zIstoreN d_X9_bits_3 rfl (by decide) rfl (q := 4) rfl ?_
  refine zSub [0, 1, 2, 3] rfl ?_
  exact loop 0 (Nat.zero_le _) 0 rfl
theorem sp_X9_bits5 (hd : 4 ≤ d) (hK : zSky I ns nt nh) : zPure g l d m_X9_bits [.ref 1, .int 5] I L fs (.int (zbits (I 8) ns)) := by
  have hn := hK.2.1
  have loop : ∀ k, k ≤ ns → ∀ s, zfor (fun k s => if I 8 k = 0 then s else s ||| ((1 : Int32) <<< (nI k &&& 31))) ns k s = zbits (I 8) ns → zA g l d m_X9_bits I L fs 4 [(3, .int (nI k)), (2, .int s), (0, .ref 1), (1, .int 5)] (zP (.int (zbits (I 8) ns)) (zU I L fs)) := by
    refine zloop ns (fun k hk ih s hx => ?_)
    refine zIloadN d_X9_bits_4 rfl rfl (q := 5) rfl ?_
    refine zAloadN d_X9_bits_5 rfl rfl (q := 6) rfl ?_
    refine zGetI d_X9_bits_6 ff_X9_23 sh_1 (by decide) (q := 9) rfl ?_
    refine zIcmp_ge d_X9_bits_9 (tgt := 33) (q := 12) (by decide) rfl (fun h9 => ?_) (fun h9 => ?_)
    · have e := nle (hK.1.1 ▸ h9)
      refine zIloadN d_X9_bits_33 rfl rfl (q := 34) rfl ?_
      refine zIret d_X9_bits_34 rfl rfl rfl ?_
      exact zPi (by rw [← hx, zfor_end e])
    · have hlt := nnle (hK.1.1 ▸ h9)
      rw [zfor_step hlt] at hx
      refine zAloadN d_X9_bits_12 rfl rfl (q := 13) rfl ?_
      refine zIloadN d_X9_bits_13 rfl rfl (q := 14) rfl ?_
      refine zIloadN d_X9_bits_14 rfl rfl (q := 15) rfl ?_
      refine zCallVP d_X9_bits_15 ml_X9_57 k_X9_get ki_X9_get ks_X9_get (sp_get5 (d := d - 1) (by omega) hK hlt) rfl rfl sh_1 (by decide) rfl (by decide) (Nat.le_of_ble_eq_true rfl) (by decide) (by omega) zns100 (q := 18) rfl ?_
      refine zIf_eq d_X9_bits_18 (tgt := 27) (q := 21) (by decide) rfl (fun h18 => ?_) (fun h18 => ?_)
      · refine zIinc d_X9_bits_27 rfl (zinc _) (by decide) rfl (q := 30) rfl ?_
        refine zGoto d_X9_bits_30 (q := 4) (by decide) ?_
        refine zSub [0, 1, 2, 3] rfl ?_
        exact ih hlt _ (by rw [← hx]; congr 1; simp_all)
      · refine zIloadN d_X9_bits_21 rfl rfl (q := 22) rfl ?_
        refine zIconst d_X9_bits_22 (v := 1) ic_1 (q := 23) rfl ?_
        refine zIloadN d_X9_bits_23 rfl rfl (q := 24) rfl ?_
        refine zIshl d_X9_bits_24 (q := 25) rfl ?_
        refine zIor d_X9_bits_25 (q := 26) rfl ?_
        refine zIstoreN d_X9_bits_26 rfl (by decide) rfl (q := 27) rfl ?_
        refine zIinc d_X9_bits_27 rfl (zinc _) (by decide) rfl (q := 30) rfl ?_
        refine zGoto d_X9_bits_30 (q := 4) (by decide) ?_
        refine zSub [0, 1, 2, 3] rfl ?_
        exact ih hlt _ (by rw [← hx]; congr 1; simp_all)
  refine zSp_of (lv := [(0, .ref 1), (1, .int 5)]) k_X9_bits rfl (Nat.le_of_ble_eq_true rfl) ?_
  refine zIconst d_X9_bits_0 (v := 0) ic_0 (q := 1) rfl ?_
  refine zIstoreN d_X9_bits_1 rfl (by decide) rfl (q := 2) rfl ?_
  refine zIconst d_X9_bits_2 (v := 0) ic_0 (q := 3) rfl ?_
  refine zIstoreN d_X9_bits_3 rfl (by decide) rfl (q := 4) rfl ?_
  refine zSub [0, 1, 2, 3] rfl ?_
  exact loop 0 (Nat.zero_le _) 0 rfl
theorem sp_X9_atHand (hd : 5 ≤ d) (hK : zSky I ns nt nh) : zPure g l d m_X9_atHand [.ref 1] I L fs (.int (zAtHand I ns)) := by
  refine zSp_of (lv := [(0, .ref 1)]) k_X9_atHand rfl (Nat.le_of_ble_eq_true rfl) ?_
  refine zIconst d_X9_atHand_0 (v := 1) ic_1 (q := 1) rfl ?_
  refine zAloadN d_X9_atHand_1 rfl rfl (q := 2) rfl ?_
  refine zGetI d_X9_atHand_2 ff_X9_23 sh_1 (by decide) (q := 5) rfl ?_
  refine zIshl d_X9_atHand_5 (q := 6) rfl ?_
  refine zIconst d_X9_atHand_6 (v := 1) ic_1 (q := 7) rfl ?_
  refine zIsub d_X9_atHand_7 (q := 8) rfl ?_
  refine zAloadN d_X9_atHand_8 rfl rfl (q := 9) rfl ?_
  refine zIconst d_X9_atHand_9 (v := 5) ic_5 (q := 10) rfl ?_
  refine zCallVP d_X9_atHand_10 ml_X9_61 k_X9_bits ki_X9_bits ks_X9_bits (sp_X9_bits5 (d := d - 1) (by omega) hK) rfl rfl sh_1 (by decide) rfl (by decide) (Nat.le_of_ble_eq_true rfl) (by decide) (by omega) zns100 (q := 13) rfl ?_
  refine zIconst d_X9_atHand_13 (v := -1) ic_m1 (q := 14) rfl ?_
  refine zIxor d_X9_atHand_14 (q := 15) rfl ?_
  refine zIand d_X9_atHand_15 (q := 16) rfl ?_
  refine zIret d_X9_atHand_16 rfl rfl rfl ?_
  exact zPi (by rw [hK.1.1]; rfl)
theorem sp_X9_waiting (hd : 6 ≤ d) (hK : zSky I ns nt nh) : zPure g l d m_X9_waiting [.ref 1] I L fs (.int (zWait I ns)) := by
  refine zSp_of (lv := [(0, .ref 1)]) k_X9_waiting rfl (Nat.le_of_ble_eq_true rfl) ?_
  refine zAloadN d_X9_waiting_0 rfl rfl (q := 1) rfl ?_
  refine zCallVP d_X9_waiting_1 ml_X9_64 k_X9_atHand ki_X9_atHand ks_X9_atHand (sp_X9_atHand (d := d - 1) (by omega) hK) rfl rfl sh_1 (by decide) rfl (by decide) (Nat.le_of_ble_eq_true rfl) (by decide) (by omega) zns100 (q := 4) rfl ?_
  refine zAloadN d_X9_waiting_4 rfl rfl (q := 5) rfl ?_
  refine zIconst d_X9_waiting_5 (v := 4) ic_4 (q := 6) rfl ?_
  refine zCallVP d_X9_waiting_6 ml_X9_61 k_X9_bits ki_X9_bits ks_X9_bits (sp_X9_bits4 (d := d - 1) (by omega) hK) rfl rfl sh_1 (by decide) rfl (by decide) (Nat.le_of_ble_eq_true rfl) (by decide) (by omega) zns100 (q := 9) rfl ?_
  refine zIconst d_X9_waiting_9 (v := -1) ic_m1 (q := 10) rfl ?_
  refine zIxor d_X9_waiting_10 (q := 11) rfl ?_
  refine zIand d_X9_waiting_11 (q := 12) rfl ?_
  refine zIret d_X9_waiting_12 rfl rfl rfl ?_
  exact zPi rfl
theorem sp_X9_dropMinute (hd : 4 ≤ d) (hK : zSky I ns nt nh) {k : Nat} (h : k < ns) : zPure g l d m_X9_dropMinute [.ref 1, .int (nI k)] I L fs (.int (zDrop I k)) := by
  refine zSp_of (lv := [(0, .ref 1), (1, .int (nI k))]) k_X9_dropMinute rfl (Nat.le_of_ble_eq_true rfl) ?_
  refine zAloadN d_X9_dropMinute_0 rfl rfl (q := 1) rfl ?_
  refine zBipush d_X9_dropMinute_1 (v := 10) bc_10 (q := 3) rfl ?_
  refine zIconst d_X9_dropMinute_3 (v := 0) ic_0 (q := 4) rfl ?_
  refine zCallVP d_X9_dropMinute_4 ml_X9_57 k_X9_get ki_X9_get ks_X9_get (sp_get10 (d := d - 1) (by omega) hK) rfl rfl sh_1 (by decide) rfl (by decide) (Nat.le_of_ble_eq_true rfl) (by decide) (by omega) zns100 (q := 7) rfl ?_
  refine zIconst d_X9_dropMinute_7 (v := 3) ic_3 (q := 8) rfl ?_
  refine zAloadN d_X9_dropMinute_8 rfl rfl (q := 9) rfl ?_
  refine zIconst d_X9_dropMinute_9 (v := 2) ic_2 (q := 10) rfl ?_
  refine zIloadN d_X9_dropMinute_10 rfl rfl (q := 11) rfl ?_
  refine zCallVP d_X9_dropMinute_11 ml_X9_57 k_X9_get ki_X9_get ks_X9_get (sp_get2 (d := d - 1) (by omega) hK h) rfl rfl sh_1 (by decide) rfl (by decide) (Nat.le_of_ble_eq_true rfl) (by decide) (by omega) zns100 (q := 14) rfl ?_
  refine zImul d_X9_dropMinute_14 (q := 15) rfl ?_
  refine zIadd d_X9_dropMinute_15 (q := 16) rfl ?_
  refine zAloadN d_X9_dropMinute_16 rfl rfl (q := 17) rfl ?_
  refine zIconst d_X9_dropMinute_17 (v := 3) ic_3 (q := 18) rfl ?_
  refine zIloadN d_X9_dropMinute_18 rfl rfl (q := 19) rfl ?_
  refine zCallVP d_X9_dropMinute_19 ml_X9_57 k_X9_get ki_X9_get ks_X9_get (sp_get3 (d := d - 1) (by omega) hK h) rfl rfl sh_1 (by decide) rfl (by decide) (Nat.le_of_ble_eq_true rfl) (by decide) (by omega) zns100 (q := 22) rfl ?_
  refine zIadd d_X9_dropMinute_22 (q := 23) rfl ?_
  refine zAloadN d_X9_dropMinute_23 rfl rfl (q := 24) rfl ?_
  refine zIconst d_X9_dropMinute_24 (v := 1) ic_1 (q := 25) rfl ?_
  refine zIloadN d_X9_dropMinute_25 rfl rfl (q := 26) rfl ?_
  refine zCallVP d_X9_dropMinute_26 ml_X9_57 k_X9_get ki_X9_get ks_X9_get (sp_get1 (d := d - 1) (by omega) hK h) rfl rfl sh_1 (by decide) rfl (by decide) (Nat.le_of_ble_eq_true rfl) (by decide) (by omega) zns100 (q := 29) rfl ?_
  refine zIsub d_X9_dropMinute_29 (q := 30) rfl ?_
  refine zIstoreN d_X9_dropMinute_30 rfl (by decide) rfl (q := 31) rfl ?_
  refine zIconst d_X9_dropMinute_31 (v := 0) ic_0 (q := 32) rfl ?_
  refine zIloadN d_X9_dropMinute_32 rfl rfl (q := 33) rfl ?_
  refine zMax d_X9_dropMinute_33 ml_X9_68 (by omega) (Nat.le_of_ble_eq_true rfl) ⟨Nat.le_refl _, Nat.le_refl _⟩ (q := 36) rfl ?_
  refine zIret d_X9_dropMinute_36 rfl rfl rfl ?_
  exact zPi rfl
theorem sp_X9_placeOnSand (hd : 4 ≤ d) (hK : zSky I ns nt nh) {k : Nat} (h : k < ns) : zPure g l d m_X9_placeOnSand [.ref 1, .int (nI k)] I L fs (.int (zPlace I k)) := by
  refine zSp_of (lv := [(0, .ref 1), (1, .int (nI k))]) k_X9_placeOnSand rfl (Nat.le_of_ble_eq_true rfl) ?_
  refine zIconst d_X9_placeOnSand_0 (v := 3) ic_3 (q := 1) rfl ?_
  refine zAloadN d_X9_placeOnSand_1 rfl rfl (q := 2) rfl ?_
  refine zIconst d_X9_placeOnSand_2 (v := 0) ic_0 (q := 3) rfl ?_
  refine zIloadN d_X9_placeOnSand_3 rfl rfl (q := 4) rfl ?_
  refine zCallVP d_X9_placeOnSand_4 ml_X9_57 k_X9_get ki_X9_get ks_X9_get (sp_get0 (d := d - 1) (by omega) hK h) rfl rfl sh_1 (by decide) rfl (by decide) (Nat.le_of_ble_eq_true rfl) (by decide) (by omega) zns100 (q := 7) rfl ?_
  refine zBipush d_X9_placeOnSand_7 (v := 8) bc_8 (q := 9) rfl ?_
  refine zIrem d_X9_placeOnSand_9 (by decide) (q := 10) rfl ?_
  refine zImul d_X9_placeOnSand_10 (q := 11) rfl ?_
  refine zAloadN d_X9_placeOnSand_11 rfl rfl (q := 12) rfl ?_
  refine zIconst d_X9_placeOnSand_12 (v := 2) ic_2 (q := 13) rfl ?_
  refine zIloadN d_X9_placeOnSand_13 rfl rfl (q := 14) rfl ?_
  refine zCallVP d_X9_placeOnSand_14 ml_X9_57 k_X9_get ki_X9_get ks_X9_get (sp_get2 (d := d - 1) (by omega) hK h) rfl rfl sh_1 (by decide) rfl (by decide) (Nat.le_of_ble_eq_true rfl) (by decide) (by omega) zns100 (q := 17) rfl ?_
  refine zIadd d_X9_placeOnSand_17 (q := 18) rfl ?_
  refine zBipush d_X9_placeOnSand_18 (v := 24) bc_24 (q := 20) rfl ?_
  refine zIrem d_X9_placeOnSand_20 (by decide) (q := 21) rfl ?_
  refine zIret d_X9_placeOnSand_21 rfl rfl rfl ?_
  exact zPi rfl
theorem sp_X9_firstToDrop (hd : 5 ≤ d) (hK : zSky I ns nt nh) : zPure g l d m_X9_firstToDrop [.ref 1] I L fs (.int (zFirst I ns)) := by
  have hn := hK.2.1
  have loop : ∀ k, k ≤ ns → ∀ s, (s = -2 ∨ ∃ j, j < ns ∧ s = nI j) → zfor (fun k s => if (s = -2 ∨ zDrop I k < zDrop I s.toNatClampNeg) ∧ ¬ I 7 k = 0 then nI k else s) ns k s = zFirst I ns → zA g l d m_X9_firstToDrop I L fs 5 [(2, .int (nI k)), (1, .int s), (0, .ref 1)] (zP (.int (zFirst I ns)) (zU I L fs)) := by
    refine zloop ns (fun k hk ih s hs hx => ?_)
    refine zIloadN d_X9_firstToDrop_5 rfl rfl (q := 6) rfl ?_
    refine zAloadN d_X9_firstToDrop_6 rfl rfl (q := 7) rfl ?_
    refine zGetI d_X9_firstToDrop_7 ff_X9_23 sh_1 (by decide) (q := 10) rfl ?_
    refine zIcmp_ge d_X9_firstToDrop_10 (tgt := 59) (q := 13) (by decide) rfl (fun h10 => ?_) (fun h10 => ?_)
    · have e := nle (hK.1.1 ▸ h10)
      refine zIloadN d_X9_firstToDrop_59 rfl rfl (q := 60) rfl ?_
      refine zIret d_X9_firstToDrop_60 rfl rfl rfl ?_
      exact zPi (by rw [← hx, zfor_end e])
    · have hlt := nnle (hK.1.1 ▸ h10)
      rw [zfor_step hlt] at hx
      refine zIloadN d_X9_firstToDrop_13 rfl rfl (q := 14) rfl ?_
      refine zBipush d_X9_firstToDrop_14 (v := -2) bc_m2 (q := 16) rfl ?_
      refine zIcmp_eq d_X9_firstToDrop_16 (tgt := 32) (q := 19) (by decide) rfl (fun h16 => ?_) (fun h16 => ?_)
      · refine zIconst d_X9_firstToDrop_32 (v := 1) ic_1 (q := 33) rfl ?_
        refine zGoto d_X9_firstToDrop_33 (q := 37) (by decide) ?_
        refine zIstoreN d_X9_firstToDrop_37 rfl (by decide) rfl (q := 38) rfl ?_
        refine zAloadN d_X9_firstToDrop_38 rfl rfl (q := 39) rfl ?_
        refine zIconst d_X9_firstToDrop_39 (v := 4) ic_4 (q := 40) rfl ?_
        refine zIloadN d_X9_firstToDrop_40 rfl rfl (q := 41) rfl ?_
        refine zCallVP d_X9_firstToDrop_41 ml_X9_57 k_X9_get ki_X9_get ks_X9_get (sp_get4 (d := d - 1) (by omega) hK hlt) rfl rfl sh_1 (by decide) rfl (by decide) (Nat.le_of_ble_eq_true rfl) (by decide) (by omega) zns100 (q := 44) rfl ?_
        refine zIf_eq d_X9_firstToDrop_44 (tgt := 53) (q := 47) (by decide) rfl (fun h44 => ?_) (fun h44 => ?_)
        · refine zIinc d_X9_firstToDrop_53 rfl (zinc _) (by decide) rfl (q := 56) rfl ?_
          refine zGoto d_X9_firstToDrop_56 (q := 5) (by decide) ?_
          refine zSub [0, 2, 3] rfl ?_
          refine ih hlt _ (by first | exact hs | exact Or.inr ⟨_, hlt, rfl⟩ | exact Or.inr ⟨_, hj, rfl⟩) (by rw [← hx]; congr 1; grind)
        · refine zIloadN d_X9_firstToDrop_47 rfl rfl (q := 48) rfl ?_
          refine zIf_eq d_X9_firstToDrop_48 (tgt := 53) (q := 51) (by decide) rfl (fun h48 => ?_) (fun h48 => ?_)
          · refine zIinc d_X9_firstToDrop_53 rfl (zinc _) (by decide) rfl (q := 56) rfl ?_
            refine zGoto d_X9_firstToDrop_56 (q := 5) (by decide) ?_
            refine zSub [0, 2, 3] rfl ?_
            refine ih hlt _ (by first | exact hs | exact Or.inr ⟨_, hlt, rfl⟩ | exact Or.inr ⟨_, hj, rfl⟩) (by rw [← hx]; congr 1; grind)
          · refine zIloadN d_X9_firstToDrop_51 rfl rfl (q := 52) rfl ?_
            refine zIstoreN d_X9_firstToDrop_52 rfl (by decide) rfl (q := 53) rfl ?_
            refine zIinc d_X9_firstToDrop_53 rfl (zinc _) (by decide) rfl (q := 56) rfl ?_
            refine zGoto d_X9_firstToDrop_56 (q := 5) (by decide) ?_
            refine zSub [0, 1, 3] rfl ?_
            refine ih hlt _ (by first | exact hs | exact Or.inr ⟨_, hlt, rfl⟩ | exact Or.inr ⟨_, hj, rfl⟩) (by rw [← hx]; congr 1; grind)
      · obtain ⟨j, hj, rfl⟩ := hs.resolve_left h16
        have ej : (nI j).toNatClampNeg = j := zcl_n (by omega)
        refine zAloadN d_X9_firstToDrop_19 rfl rfl (q := 20) rfl ?_
        refine zIloadN d_X9_firstToDrop_20 rfl rfl (q := 21) rfl ?_
        refine zCallVP d_X9_firstToDrop_21 ml_X9_73 k_X9_dropMinute ki_X9_dropMinute ks_X9_dropMinute (sp_X9_dropMinute (d := d - 1) (by omega) hK hlt) rfl rfl sh_1 (by decide) rfl (by decide) (Nat.le_of_ble_eq_true rfl) (by decide) (by omega) zns100 (q := 24) rfl ?_
        refine zAloadN d_X9_firstToDrop_24 rfl rfl (q := 25) rfl ?_
        refine zIloadN d_X9_firstToDrop_25 rfl rfl (q := 26) rfl ?_
        refine zCallVP d_X9_firstToDrop_26 ml_X9_73 k_X9_dropMinute ki_X9_dropMinute ks_X9_dropMinute (sp_X9_dropMinute (d := d - 1) (by omega) hK hj) rfl rfl sh_1 (by decide) rfl (by decide) (Nat.le_of_ble_eq_true rfl) (by decide) (by omega) zns100 (q := 29) rfl ?_
        refine zIcmp_ge d_X9_firstToDrop_29 (tgt := 36) (q := 32) (by decide) rfl (fun h29 => ?_) (fun h29 => ?_)
        · refine zIconst d_X9_firstToDrop_36 (v := 0) ic_0 (q := 37) rfl ?_
          refine zIstoreN d_X9_firstToDrop_37 rfl (by decide) rfl (q := 38) rfl ?_
          refine zAloadN d_X9_firstToDrop_38 rfl rfl (q := 39) rfl ?_
          refine zIconst d_X9_firstToDrop_39 (v := 4) ic_4 (q := 40) rfl ?_
          refine zIloadN d_X9_firstToDrop_40 rfl rfl (q := 41) rfl ?_
          refine zCallVP d_X9_firstToDrop_41 ml_X9_57 k_X9_get ki_X9_get ks_X9_get (sp_get4 (d := d - 1) (by omega) hK hlt) rfl rfl sh_1 (by decide) rfl (by decide) (Nat.le_of_ble_eq_true rfl) (by decide) (by omega) zns100 (q := 44) rfl ?_
          refine zIf_eq d_X9_firstToDrop_44 (tgt := 53) (q := 47) (by decide) rfl (fun h44 => ?_) (fun h44 => ?_)
          · refine zIinc d_X9_firstToDrop_53 rfl (zinc _) (by decide) rfl (q := 56) rfl ?_
            refine zGoto d_X9_firstToDrop_56 (q := 5) (by decide) ?_
            refine zSub [0, 2, 3] rfl ?_
            refine ih hlt _ (by first | exact hs | exact Or.inr ⟨_, hlt, rfl⟩ | exact Or.inr ⟨_, hj, rfl⟩) (by rw [← hx]; congr 1; grind)
          · refine zIloadN d_X9_firstToDrop_47 rfl rfl (q := 48) rfl ?_
            refine zIf_eq d_X9_firstToDrop_48 (tgt := 53) (q := 51) (by decide) rfl (fun h48 => ?_) (fun h48 => ?_)
            · refine zIinc d_X9_firstToDrop_53 rfl (zinc _) (by decide) rfl (q := 56) rfl ?_
              refine zGoto d_X9_firstToDrop_56 (q := 5) (by decide) ?_
              refine zSub [0, 2, 3] rfl ?_
              refine ih hlt _ (by first | exact hs | exact Or.inr ⟨_, hlt, rfl⟩ | exact Or.inr ⟨_, hj, rfl⟩) (by rw [← hx]; congr 1; grind)
            · refine zIloadN d_X9_firstToDrop_51 rfl rfl (q := 52) rfl ?_
              refine zIstoreN d_X9_firstToDrop_52 rfl (by decide) rfl (q := 53) rfl ?_
              refine zIinc d_X9_firstToDrop_53 rfl (zinc _) (by decide) rfl (q := 56) rfl ?_
              refine zGoto d_X9_firstToDrop_56 (q := 5) (by decide) ?_
              refine zSub [0, 1, 3] rfl ?_
              refine ih hlt _ (by first | exact hs | exact Or.inr ⟨_, hlt, rfl⟩ | exact Or.inr ⟨_, hj, rfl⟩) (by rw [← hx]; congr 1; grind)
        · refine zIconst d_X9_firstToDrop_32 (v := 1) ic_1 (q := 33) rfl ?_
          refine zGoto d_X9_firstToDrop_33 (q := 37) (by decide) ?_
          refine zIstoreN d_X9_firstToDrop_37 rfl (by decide) rfl (q := 38) rfl ?_
          refine zAloadN d_X9_firstToDrop_38 rfl rfl (q := 39) rfl ?_
          refine zIconst d_X9_firstToDrop_39 (v := 4) ic_4 (q := 40) rfl ?_
          refine zIloadN d_X9_firstToDrop_40 rfl rfl (q := 41) rfl ?_
          refine zCallVP d_X9_firstToDrop_41 ml_X9_57 k_X9_get ki_X9_get ks_X9_get (sp_get4 (d := d - 1) (by omega) hK hlt) rfl rfl sh_1 (by decide) rfl (by decide) (Nat.le_of_ble_eq_true rfl) (by decide) (by omega) zns100 (q := 44) rfl ?_
          refine zIf_eq d_X9_firstToDrop_44 (tgt := 53) (q := 47) (by decide) rfl (fun h44 => ?_) (fun h44 => ?_)
          · refine zIinc d_X9_firstToDrop_53 rfl (zinc _) (by decide) rfl (q := 56) rfl ?_
            refine zGoto d_X9_firstToDrop_56 (q := 5) (by decide) ?_
            refine zSub [0, 2, 3] rfl ?_
            refine ih hlt _ (by first | exact hs | exact Or.inr ⟨_, hlt, rfl⟩ | exact Or.inr ⟨_, hj, rfl⟩) (by rw [← hx]; congr 1; grind)
          · refine zIloadN d_X9_firstToDrop_47 rfl rfl (q := 48) rfl ?_
            refine zIf_eq d_X9_firstToDrop_48 (tgt := 53) (q := 51) (by decide) rfl (fun h48 => ?_) (fun h48 => ?_)
            · refine zIinc d_X9_firstToDrop_53 rfl (zinc _) (by decide) rfl (q := 56) rfl ?_
              refine zGoto d_X9_firstToDrop_56 (q := 5) (by decide) ?_
              refine zSub [0, 2, 3] rfl ?_
              refine ih hlt _ (by first | exact hs | exact Or.inr ⟨_, hlt, rfl⟩ | exact Or.inr ⟨_, hj, rfl⟩) (by rw [← hx]; congr 1; grind)
            · refine zIloadN d_X9_firstToDrop_51 rfl rfl (q := 52) rfl ?_
              refine zIstoreN d_X9_firstToDrop_52 rfl (by decide) rfl (q := 53) rfl ?_
              refine zIinc d_X9_firstToDrop_53 rfl (zinc _) (by decide) rfl (q := 56) rfl ?_
              refine zGoto d_X9_firstToDrop_56 (q := 5) (by decide) ?_
              refine zSub [0, 1, 3] rfl ?_
              refine ih hlt _ (by first | exact hs | exact Or.inr ⟨_, hlt, rfl⟩ | exact Or.inr ⟨_, hj, rfl⟩) (by rw [← hx]; congr 1; grind)
  refine zSp_of (lv := [(0, .ref 1)]) k_X9_firstToDrop rfl (Nat.le_of_ble_eq_true rfl) ?_
  refine zBipush d_X9_firstToDrop_0 (v := -2) bc_m2 (q := 2) rfl ?_
  refine zIstoreN d_X9_firstToDrop_2 rfl (by decide) rfl (q := 3) rfl ?_
  refine zIconst d_X9_firstToDrop_3 (v := 0) ic_0 (q := 4) rfl ?_
  refine zIstoreN d_X9_firstToDrop_4 rfl (by decide) rfl (q := 5) rfl ?_
  refine zSub [0, 1, 2] rfl ?_
  exact loop 0 (Nat.zero_le _) (-2) (Or.inl rfl) rfl
theorem sp_X9_upAfter (hd : 5 ≤ d) (hK : zSky I ns nt nh) {m : Int32} : zPure g l d m_X9_upAfter [.ref 1, .int m] I L fs (.int (zUpAf I ns m)) := by
  have hn := hK.2.1
  have loop : ∀ k, k ≤ ns → ∀ s, zfor (fun k s => if m < zDrop I k then s else s &&& (((1 : Int32) <<< (nI k &&& 31)) ^^^ (-1))) ns k s = zUpAf I ns m → zA g l d m_X9_upAfter I L fs 8 [(3, .int (nI k)), (2, .int s), (0, .ref 1), (1, .int m)] (zP (.int (zUpAf I ns m)) (zU I L fs)) := by
    refine zloop ns (fun k hk ih s hx => ?_)
    refine zIloadN d_X9_upAfter_8 rfl rfl (q := 9) rfl ?_
    refine zAloadN d_X9_upAfter_9 rfl rfl (q := 10) rfl ?_
    refine zGetI d_X9_upAfter_10 ff_X9_23 sh_1 (by decide) (q := 13) rfl ?_
    refine zIcmp_ge d_X9_upAfter_13 (tgt := 39) (q := 16) (by decide) rfl (fun h13 => ?_) (fun h13 => ?_)
    · have e := nle (hK.1.1 ▸ h13)
      refine zIloadN d_X9_upAfter_39 rfl rfl (q := 40) rfl ?_
      refine zIret d_X9_upAfter_40 rfl rfl rfl ?_
      exact zPi (by rw [← hx, zfor_end e])
    · have hlt := nnle (hK.1.1 ▸ h13)
      rw [zfor_step hlt] at hx
      refine zAloadN d_X9_upAfter_16 rfl rfl (q := 17) rfl ?_
      refine zIloadN d_X9_upAfter_17 rfl rfl (q := 18) rfl ?_
      refine zCallVP d_X9_upAfter_18 ml_X9_73 k_X9_dropMinute ki_X9_dropMinute ks_X9_dropMinute (sp_X9_dropMinute (d := d - 1) (by omega) hK hlt) rfl rfl sh_1 (by decide) rfl (by decide) (Nat.le_of_ble_eq_true rfl) (by decide) (by omega) zns100 (q := 21) rfl ?_
      refine zIloadN d_X9_upAfter_21 rfl rfl (q := 22) rfl ?_
      refine zIcmp_gt d_X9_upAfter_22 (tgt := 33) (q := 25) (by decide) rfl (fun h22 => ?_) (fun h22 => ?_)
      · refine zIinc d_X9_upAfter_33 rfl (zinc _) (by decide) rfl (q := 36) rfl ?_
        refine zGoto d_X9_upAfter_36 (q := 8) (by decide) ?_
        refine zSub [0, 1, 2, 3] rfl ?_
        exact ih hlt _ (by rw [← hx]; congr 1; first | exact (if_pos h22).symm | exact (if_neg h22).symm)
      · refine zIloadN d_X9_upAfter_25 rfl rfl (q := 26) rfl ?_
        refine zIconst d_X9_upAfter_26 (v := 1) ic_1 (q := 27) rfl ?_
        refine zIloadN d_X9_upAfter_27 rfl rfl (q := 28) rfl ?_
        refine zIshl d_X9_upAfter_28 (q := 29) rfl ?_
        refine zIconst d_X9_upAfter_29 (v := -1) ic_m1 (q := 30) rfl ?_
        refine zIxor d_X9_upAfter_30 (q := 31) rfl ?_
        refine zIand d_X9_upAfter_31 (q := 32) rfl ?_
        refine zIstoreN d_X9_upAfter_32 rfl (by decide) rfl (q := 33) rfl ?_
        refine zIinc d_X9_upAfter_33 rfl (zinc _) (by decide) rfl (q := 36) rfl ?_
        refine zGoto d_X9_upAfter_36 (q := 8) (by decide) ?_
        refine zSub [0, 1, 2, 3] rfl ?_
        exact ih hlt _ (by rw [← hx]; congr 1; first | exact (if_pos h22).symm | exact (if_neg h22).symm)
  refine zSp_of (lv := [(0, .ref 1), (1, .int m)]) k_X9_upAfter rfl (Nat.le_of_ble_eq_true rfl) ?_
  refine zAloadN d_X9_upAfter_0 rfl rfl (q := 1) rfl ?_
  refine zIconst d_X9_upAfter_1 (v := 4) ic_4 (q := 2) rfl ?_
  refine zCallVP d_X9_upAfter_2 ml_X9_61 k_X9_bits ki_X9_bits ks_X9_bits (sp_X9_bits4 (d := d - 1) (by omega) hK) rfl rfl sh_1 (by decide) rfl (by decide) (Nat.le_of_ble_eq_true rfl) (by decide) (by omega) zns100 (q := 5) rfl ?_
  refine zIstoreN d_X9_upAfter_5 rfl (by decide) rfl (q := 6) rfl ?_
  refine zIconst d_X9_upAfter_6 (v := 0) ic_0 (q := 7) rfl ?_
  refine zIstoreN d_X9_upAfter_7 rfl (by decide) rfl (q := 8) rfl ?_
  refine zSub [0, 1, 2, 3] rfl ?_
  exact loop 0 (Nat.zero_le _) _ rfl
theorem sp_X9_goOn (hd : 4 ≤ d) (hK : zSky I ns nt nh) {m : Int32} : zSp g l d 100 m_X9_goOn [.ref 1, .int m] (zU I L fs) (zV (fun w => w = zU (zGoOn I m) L fs)) := by
  have hK2 := zSky_up (a := 15) (f := zup (I 15) 4 (I 15 4 + m)) hK (by decide)
  refine zSp_of (lv := [(0, .ref 1), (1, .int m)]) k_X9_goOn rfl (Nat.le_of_ble_eq_true rfl) ?_
  refine zAloadN d_X9_goOn_0 rfl rfl (q := 1) rfl ?_
  refine zGetR d_X9_goOn_1 ff_X9_20 sh_1 (by decide) r_1_2 (q := 4) rfl ?_
  refine zIconst d_X9_goOn_4 (v := 4) ic_4 (q := 5) rfl ?_
  refine zDup2 d_X9_goOn_5 rfl rfl (q := 6) rfl ?_
  refine zIald d_X9_goOn_6 sh_15 (by decide) (j := 4) rfl (by decide) (q := 7) rfl ?_
  refine zIloadN d_X9_goOn_7 rfl rfl (q := 8) rfl ?_
  refine zIadd d_X9_goOn_8 (q := 9) rfl ?_
  refine zIast d_X9_goOn_9 sh_15 (by decide) (j := 4) rfl (by decide) (q := 10) rfl ?_
  refine zAloadN d_X9_goOn_10 rfl rfl (q := 11) rfl ?_
  refine zBipush d_X9_goOn_11 (v := 9) bc_9 (q := 13) rfl ?_
  refine zIconst d_X9_goOn_13 (v := 0) ic_0 (q := 14) rfl ?_
  refine zSipush d_X9_goOn_14 (v := 999) sc_999 (q := 17) rfl ?_
  refine zAloadN d_X9_goOn_17 rfl rfl (q := 18) rfl ?_
  refine zBipush d_X9_goOn_18 (v := 9) bc_9 (q := 20) rfl ?_
  refine zIconst d_X9_goOn_20 (v := 0) ic_0 (q := 21) rfl ?_
  refine zCallVP d_X9_goOn_21 ml_X9_57 k_X9_get ki_X9_get ks_X9_get (sp_get9 (d := d - 1) (by omega) hK2) rfl rfl sh_1 (by decide) rfl (by decide) (Nat.le_of_ble_eq_true rfl) (by decide) (by omega) zns100 (q := 24) rfl ?_
  refine zIloadN d_X9_goOn_24 rfl rfl (q := 25) rfl ?_
  refine zIadd d_X9_goOn_25 (q := 26) rfl ?_
  refine zMin d_X9_goOn_26 ml_X9_76 (by omega) (Nat.le_of_ble_eq_true rfl) ⟨Nat.le_refl _, Nat.le_refl _⟩ (q := 29) rfl ?_
  refine zCallVV d_X9_goOn_29 ml_X9_53 k_X9_set ki_X9_set ks_X9_set (sp_set9 (d := d - 1) (by omega) hK2) rfl rfl sh_1 (by decide) rfl (by decide) (Nat.le_of_ble_eq_true rfl) (by decide) (by omega) zns100 (q := 32) rfl (fun w' hw' => ?_)
  subst hw'
  refine zVret d_X9_goOn_32 rfl rfl ?_
  exact ⟨rfl, by unfold zGoOn; rw [zup_ne (f := I) (show (12 : Nat) ≠ 15 by decide)]⟩
end S9
end
section
theorem d_X9_addShip_0 : decode (zmc m_X9_addShip) 0 = .ok (.aload_n 0, 1) := by decide +kernel
theorem d_X9_addShip_1 : decode (zmc m_X9_addShip) 1 = .ok (.bipush 8, 2) := by decide +kernel
theorem d_X9_addShip_3 : decode (zmc m_X9_addShip) 3 = .ok (.iload_n 1, 1) := by decide +kernel
theorem d_X9_addShip_4 : decode (zmc m_X9_addShip) 4 = .ok (.invokevirtual 50, 3) := by decide +kernel
theorem d_X9_addShip_7 : decode (zmc m_X9_addShip) 7 = .ok (.ifCond .ne 5, 3) := by decide +kernel
theorem d_X9_addShip_10 : decode (zmc m_X9_addShip) 10 = .ok (.iconst (-1), 1) := by decide +kernel
theorem d_X9_addShip_11 : decode (zmc m_X9_addShip) 11 = .ok (.ireturn, 1) := by decide +kernel
theorem d_X9_addShip_12 : decode (zmc m_X9_addShip) 12 = .ok (.aload_n 0, 1) := by decide +kernel
theorem d_X9_addShip_13 : decode (zmc m_X9_addShip) 13 = .ok (.getfield 30, 3) := by decide +kernel
theorem d_X9_addShip_16 : decode (zmc m_X9_addShip) 16 = .ok (.bipush 6, 2) := by decide +kernel
theorem d_X9_addShip_18 : decode (zmc m_X9_addShip) 18 = .ok (.if_icmp .lt 6, 3) := by decide +kernel
theorem d_X9_addShip_21 : decode (zmc m_X9_addShip) 21 = .ok (.bipush (-3), 2) := by decide +kernel
theorem d_X9_addShip_23 : decode (zmc m_X9_addShip) 23 = .ok (.ireturn, 1) := by decide +kernel
theorem d_X9_addShip_24 : decode (zmc m_X9_addShip) 24 = .ok (.aload_n 0, 1) := by decide +kernel
theorem d_X9_addShip_25 : decode (zmc m_X9_addShip) 25 = .ok (.dup, 1) := by decide +kernel
theorem d_X9_addShip_26 : decode (zmc m_X9_addShip) 26 = .ok (.getfield 30, 3) := by decide +kernel
theorem d_X9_addShip_29 : decode (zmc m_X9_addShip) 29 = .ok (.dup_x1, 1) := by decide +kernel
theorem d_X9_addShip_30 : decode (zmc m_X9_addShip) 30 = .ok (.iconst 1, 1) := by decide +kernel
theorem d_X9_addShip_31 : decode (zmc m_X9_addShip) 31 = .ok (.iadd, 1) := by decide +kernel
theorem d_X9_addShip_32 : decode (zmc m_X9_addShip) 32 = .ok (.putfield 30, 3) := by decide +kernel
theorem d_X9_addShip_35 : decode (zmc m_X9_addShip) 35 = .ok (.istore_n 2, 1) := by decide +kernel
theorem d_X9_addShip_36 : decode (zmc m_X9_addShip) 36 = .ok (.aload_n 0, 1) := by decide +kernel
theorem d_X9_addShip_37 : decode (zmc m_X9_addShip) 37 = .ok (.bipush 8, 2) := by decide +kernel
theorem d_X9_addShip_39 : decode (zmc m_X9_addShip) 39 = .ok (.iload_n 2, 1) := by decide +kernel
theorem d_X9_addShip_40 : decode (zmc m_X9_addShip) 40 = .ok (.iload_n 1, 1) := by decide +kernel
theorem d_X9_addShip_41 : decode (zmc m_X9_addShip) 41 = .ok (.invokevirtual 53, 3) := by decide +kernel
theorem d_X9_addShip_44 : decode (zmc m_X9_addShip) 44 = .ok (.iload_n 2, 1) := by decide +kernel
theorem d_X9_addShip_45 : decode (zmc m_X9_addShip) 45 = .ok (.ireturn, 1) := by decide +kernel
theorem d_X9_addStar_0 : decode (zmc m_X9_addStar) 0 = .ok (.aload_n 0, 1) := by decide +kernel
theorem d_X9_addStar_1 : decode (zmc m_X9_addStar) 1 = .ok (.iconst 0, 1) := by decide +kernel
theorem d_X9_addStar_2 : decode (zmc m_X9_addStar) 2 = .ok (.iload_n 1, 1) := by decide +kernel
theorem d_X9_addStar_3 : decode (zmc m_X9_addStar) 3 = .ok (.invokevirtual 50, 3) := by decide +kernel
theorem d_X9_addStar_6 : decode (zmc m_X9_addStar) 6 = .ok (.ifCond .eq 21, 3) := by decide +kernel
theorem d_X9_addStar_9 : decode (zmc m_X9_addStar) 9 = .ok (.aload_n 0, 1) := by decide +kernel
theorem d_X9_addStar_10 : decode (zmc m_X9_addStar) 10 = .ok (.iconst 1, 1) := by decide +kernel
theorem d_X9_addStar_11 : decode (zmc m_X9_addStar) 11 = .ok (.iload_n 2, 1) := by decide +kernel
theorem d_X9_addStar_12 : decode (zmc m_X9_addStar) 12 = .ok (.invokevirtual 50, 3) := by decide +kernel
theorem d_X9_addStar_15 : decode (zmc m_X9_addStar) 15 = .ok (.ifCond .eq 12, 3) := by decide +kernel
theorem d_X9_addStar_18 : decode (zmc m_X9_addStar) 18 = .ok (.aload_n 0, 1) := by decide +kernel
theorem d_X9_addStar_19 : decode (zmc m_X9_addStar) 19 = .ok (.iconst 2, 1) := by decide +kernel
theorem d_X9_addStar_20 : decode (zmc m_X9_addStar) 20 = .ok (.iload_n 3, 1) := by decide +kernel
theorem d_X9_addStar_21 : decode (zmc m_X9_addStar) 21 = .ok (.invokevirtual 50, 3) := by decide +kernel
theorem d_X9_addStar_24 : decode (zmc m_X9_addStar) 24 = .ok (.ifCond .ne 5, 3) := by decide +kernel
theorem d_X9_addStar_27 : decode (zmc m_X9_addStar) 27 = .ok (.iconst (-1), 1) := by decide +kernel
theorem d_X9_addStar_28 : decode (zmc m_X9_addStar) 28 = .ok (.ireturn, 1) := by decide +kernel
theorem d_X9_addStar_29 : decode (zmc m_X9_addStar) 29 = .ok (.aload_n 0, 1) := by decide +kernel
theorem d_X9_addStar_30 : decode (zmc m_X9_addStar) 30 = .ok (.iload_n 1, 1) := by decide +kernel
theorem d_X9_addStar_31 : decode (zmc m_X9_addStar) 31 = .ok (.invokevirtual 47, 3) := by decide +kernel
theorem d_X9_addStar_34 : decode (zmc m_X9_addStar) 34 = .ok (.bipush (-2), 2) := by decide +kernel
theorem d_X9_addStar_36 : decode (zmc m_X9_addStar) 36 = .ok (.if_icmp .eq 5, 3) := by decide +kernel
theorem d_X9_addStar_39 : decode (zmc m_X9_addStar) 39 = .ok (.iconst (-1), 1) := by decide +kernel
theorem d_X9_addStar_40 : decode (zmc m_X9_addStar) 40 = .ok (.ireturn, 1) := by decide +kernel
theorem d_X9_addStar_41 : decode (zmc m_X9_addStar) 41 = .ok (.aload_n 0, 1) := by decide +kernel
theorem d_X9_addStar_42 : decode (zmc m_X9_addStar) 42 = .ok (.getfield 23, 3) := by decide +kernel
theorem d_X9_addStar_45 : decode (zmc m_X9_addStar) 45 = .ok (.bipush 10, 2) := by decide +kernel
theorem d_X9_addStar_47 : decode (zmc m_X9_addStar) 47 = .ok (.if_icmp .lt 6, 3) := by decide +kernel
theorem d_X9_addStar_50 : decode (zmc m_X9_addStar) 50 = .ok (.bipush (-3), 2) := by decide +kernel
theorem d_X9_addStar_52 : decode (zmc m_X9_addStar) 52 = .ok (.ireturn, 1) := by decide +kernel
theorem d_X9_addStar_53 : decode (zmc m_X9_addStar) 53 = .ok (.aload_n 0, 1) := by decide +kernel
theorem d_X9_addStar_54 : decode (zmc m_X9_addStar) 54 = .ok (.dup, 1) := by decide +kernel
theorem d_X9_addStar_55 : decode (zmc m_X9_addStar) 55 = .ok (.getfield 23, 3) := by decide +kernel
theorem d_X9_addStar_58 : decode (zmc m_X9_addStar) 58 = .ok (.dup_x1, 1) := by decide +kernel
theorem d_X9_addStar_59 : decode (zmc m_X9_addStar) 59 = .ok (.iconst 1, 1) := by decide +kernel
theorem d_X9_addStar_60 : decode (zmc m_X9_addStar) 60 = .ok (.iadd, 1) := by decide +kernel
theorem d_X9_addStar_61 : decode (zmc m_X9_addStar) 61 = .ok (.putfield 23, 3) := by decide +kernel
theorem d_X9_addStar_64 : decode (zmc m_X9_addStar) 64 = .ok (.istore 4, 2) := by decide +kernel
theorem d_X9_addStar_66 : decode (zmc m_X9_addStar) 66 = .ok (.aload_n 0, 1) := by decide +kernel
theorem d_X9_addStar_67 : decode (zmc m_X9_addStar) 67 = .ok (.iconst 0, 1) := by decide +kernel
theorem d_X9_addStar_68 : decode (zmc m_X9_addStar) 68 = .ok (.iload 4, 2) := by decide +kernel
theorem d_X9_addStar_70 : decode (zmc m_X9_addStar) 70 = .ok (.iload_n 1, 1) := by decide +kernel
theorem d_X9_addStar_71 : decode (zmc m_X9_addStar) 71 = .ok (.invokevirtual 53, 3) := by decide +kernel
theorem d_X9_addStar_74 : decode (zmc m_X9_addStar) 74 = .ok (.aload_n 0, 1) := by decide +kernel
theorem d_X9_addStar_75 : decode (zmc m_X9_addStar) 75 = .ok (.iconst 1, 1) := by decide +kernel
theorem d_X9_addStar_76 : decode (zmc m_X9_addStar) 76 = .ok (.iload 4, 2) := by decide +kernel
theorem d_X9_addStar_78 : decode (zmc m_X9_addStar) 78 = .ok (.iload_n 2, 1) := by decide +kernel
theorem d_X9_addStar_79 : decode (zmc m_X9_addStar) 79 = .ok (.invokevirtual 53, 3) := by decide +kernel
theorem d_X9_addStar_82 : decode (zmc m_X9_addStar) 82 = .ok (.aload_n 0, 1) := by decide +kernel
theorem d_X9_addStar_83 : decode (zmc m_X9_addStar) 83 = .ok (.iconst 2, 1) := by decide +kernel
theorem d_X9_addStar_84 : decode (zmc m_X9_addStar) 84 = .ok (.iload 4, 2) := by decide +kernel
theorem d_X9_addStar_86 : decode (zmc m_X9_addStar) 86 = .ok (.iload_n 3, 1) := by decide +kernel
theorem d_X9_addStar_87 : decode (zmc m_X9_addStar) 87 = .ok (.invokevirtual 53, 3) := by decide +kernel
theorem d_X9_addStar_90 : decode (zmc m_X9_addStar) 90 = .ok (.aload_n 0, 1) := by decide +kernel
theorem d_X9_addStar_91 : decode (zmc m_X9_addStar) 91 = .ok (.iconst 3, 1) := by decide +kernel
theorem d_X9_addStar_92 : decode (zmc m_X9_addStar) 92 = .ok (.iload 4, 2) := by decide +kernel
theorem d_X9_addStar_94 : decode (zmc m_X9_addStar) 94 = .ok (.iconst 5, 1) := by decide +kernel
theorem d_X9_addStar_95 : decode (zmc m_X9_addStar) 95 = .ok (.invokevirtual 53, 3) := by decide +kernel
theorem d_X9_addStar_98 : decode (zmc m_X9_addStar) 98 = .ok (.iload 4, 2) := by decide +kernel
theorem d_X9_addStar_100 : decode (zmc m_X9_addStar) 100 = .ok (.ireturn, 1) := by decide +kernel
theorem d_X9_addThrower_0 : decode (zmc m_X9_addThrower) 0 = .ok (.aload_n 0, 1) := by decide +kernel
theorem d_X9_addThrower_1 : decode (zmc m_X9_addThrower) 1 = .ok (.bipush 6, 2) := by decide +kernel
theorem d_X9_addThrower_3 : decode (zmc m_X9_addThrower) 3 = .ok (.iload_n 1, 1) := by decide +kernel
theorem d_X9_addThrower_4 : decode (zmc m_X9_addThrower) 4 = .ok (.invokevirtual 50, 3) := by decide +kernel
theorem d_X9_addThrower_7 : decode (zmc m_X9_addThrower) 7 = .ok (.ifCond .ne 5, 3) := by decide +kernel
theorem d_X9_addThrower_10 : decode (zmc m_X9_addThrower) 10 = .ok (.iconst (-1), 1) := by decide +kernel
theorem d_X9_addThrower_11 : decode (zmc m_X9_addThrower) 11 = .ok (.ireturn, 1) := by decide +kernel
theorem d_X9_addThrower_12 : decode (zmc m_X9_addThrower) 12 = .ok (.aload_n 0, 1) := by decide +kernel
theorem d_X9_addThrower_13 : decode (zmc m_X9_addThrower) 13 = .ok (.getfield 27, 3) := by decide +kernel
theorem d_X9_addThrower_16 : decode (zmc m_X9_addThrower) 16 = .ok (.iconst 4, 1) := by decide +kernel
theorem d_X9_addThrower_17 : decode (zmc m_X9_addThrower) 17 = .ok (.if_icmp .lt 6, 3) := by decide +kernel
theorem d_X9_addThrower_20 : decode (zmc m_X9_addThrower) 20 = .ok (.bipush (-3), 2) := by decide +kernel
theorem d_X9_addThrower_22 : decode (zmc m_X9_addThrower) 22 = .ok (.ireturn, 1) := by decide +kernel
theorem d_X9_addThrower_23 : decode (zmc m_X9_addThrower) 23 = .ok (.aload_n 0, 1) := by decide +kernel
theorem d_X9_addThrower_24 : decode (zmc m_X9_addThrower) 24 = .ok (.dup, 1) := by decide +kernel
theorem d_X9_addThrower_25 : decode (zmc m_X9_addThrower) 25 = .ok (.getfield 27, 3) := by decide +kernel
theorem d_X9_addThrower_28 : decode (zmc m_X9_addThrower) 28 = .ok (.dup_x1, 1) := by decide +kernel
theorem d_X9_addThrower_29 : decode (zmc m_X9_addThrower) 29 = .ok (.iconst 1, 1) := by decide +kernel
theorem d_X9_addThrower_30 : decode (zmc m_X9_addThrower) 30 = .ok (.iadd, 1) := by decide +kernel
theorem d_X9_addThrower_31 : decode (zmc m_X9_addThrower) 31 = .ok (.putfield 27, 3) := by decide +kernel
theorem d_X9_addThrower_34 : decode (zmc m_X9_addThrower) 34 = .ok (.istore_n 2, 1) := by decide +kernel
theorem d_X9_addThrower_35 : decode (zmc m_X9_addThrower) 35 = .ok (.aload_n 0, 1) := by decide +kernel
theorem d_X9_addThrower_36 : decode (zmc m_X9_addThrower) 36 = .ok (.bipush 6, 2) := by decide +kernel
theorem d_X9_addThrower_38 : decode (zmc m_X9_addThrower) 38 = .ok (.iload_n 2, 1) := by decide +kernel
theorem d_X9_addThrower_39 : decode (zmc m_X9_addThrower) 39 = .ok (.iload_n 1, 1) := by decide +kernel
theorem d_X9_addThrower_40 : decode (zmc m_X9_addThrower) 40 = .ok (.invokevirtual 53, 3) := by decide +kernel
theorem d_X9_addThrower_43 : decode (zmc m_X9_addThrower) 43 = .ok (.aload_n 0, 1) := by decide +kernel
theorem d_X9_addThrower_44 : decode (zmc m_X9_addThrower) 44 = .ok (.bipush 7, 2) := by decide +kernel
theorem d_X9_addThrower_46 : decode (zmc m_X9_addThrower) 46 = .ok (.iload_n 2, 1) := by decide +kernel
theorem d_X9_addThrower_47 : decode (zmc m_X9_addThrower) 47 = .ok (.iconst 3, 1) := by decide +kernel
theorem d_X9_addThrower_48 : decode (zmc m_X9_addThrower) 48 = .ok (.invokevirtual 53, 3) := by decide +kernel
theorem d_X9_addThrower_51 : decode (zmc m_X9_addThrower) 51 = .ok (.iload_n 2, 1) := by decide +kernel
theorem d_X9_addThrower_52 : decode (zmc m_X9_addThrower) 52 = .ok (.ireturn, 1) := by decide +kernel
theorem d_X9_dropDue_0 : decode (zmc m_X9_dropDue) 0 = .ok (.aload_n 0, 1) := by decide +kernel
theorem d_X9_dropDue_1 : decode (zmc m_X9_dropDue) 1 = .ok (.iconst 4, 1) := by decide +kernel
theorem d_X9_dropDue_2 : decode (zmc m_X9_dropDue) 2 = .ok (.invokevirtual 61, 3) := by decide +kernel
theorem d_X9_dropDue_5 : decode (zmc m_X9_dropDue) 5 = .ok (.aload_n 0, 1) := by decide +kernel
theorem d_X9_dropDue_6 : decode (zmc m_X9_dropDue) 6 = .ok (.aload_n 0, 1) := by decide +kernel
theorem d_X9_dropDue_7 : decode (zmc m_X9_dropDue) 7 = .ok (.bipush 9, 2) := by decide +kernel
theorem d_X9_dropDue_9 : decode (zmc m_X9_dropDue) 9 = .ok (.iconst 0, 1) := by decide +kernel
theorem d_X9_dropDue_10 : decode (zmc m_X9_dropDue) 10 = .ok (.invokevirtual 57, 3) := by decide +kernel
theorem d_X9_dropDue_13 : decode (zmc m_X9_dropDue) 13 = .ok (.invokevirtual 79, 3) := by decide +kernel
theorem d_X9_dropDue_16 : decode (zmc m_X9_dropDue) 16 = .ok (.iconst (-1), 1) := by decide +kernel
theorem d_X9_dropDue_17 : decode (zmc m_X9_dropDue) 17 = .ok (.ixor, 1) := by decide +kernel
theorem d_X9_dropDue_18 : decode (zmc m_X9_dropDue) 18 = .ok (.iand, 1) := by decide +kernel
theorem d_X9_dropDue_19 : decode (zmc m_X9_dropDue) 19 = .ok (.istore_n 1, 1) := by decide +kernel
theorem d_X9_dropDue_20 : decode (zmc m_X9_dropDue) 20 = .ok (.iconst 0, 1) := by decide +kernel
theorem d_X9_dropDue_21 : decode (zmc m_X9_dropDue) 21 = .ok (.istore_n 2, 1) := by decide +kernel
theorem d_X9_dropDue_22 : decode (zmc m_X9_dropDue) 22 = .ok (.iload_n 2, 1) := by decide +kernel
theorem d_X9_dropDue_23 : decode (zmc m_X9_dropDue) 23 = .ok (.aload_n 0, 1) := by decide +kernel
theorem d_X9_dropDue_24 : decode (zmc m_X9_dropDue) 24 = .ok (.getfield 23, 3) := by decide +kernel
theorem d_X9_dropDue_27 : decode (zmc m_X9_dropDue) 27 = .ok (.if_icmp .ge 24, 3) := by decide +kernel
theorem d_X9_dropDue_30 : decode (zmc m_X9_dropDue) 30 = .ok (.iload_n 1, 1) := by decide +kernel
theorem d_X9_dropDue_31 : decode (zmc m_X9_dropDue) 31 = .ok (.iload_n 2, 1) := by decide +kernel
theorem d_X9_dropDue_32 : decode (zmc m_X9_dropDue) 32 = .ok (.ishr, 1) := by decide +kernel
theorem d_X9_dropDue_33 : decode (zmc m_X9_dropDue) 33 = .ok (.iconst 1, 1) := by decide +kernel
theorem d_X9_dropDue_34 : decode (zmc m_X9_dropDue) 34 = .ok (.iand, 1) := by decide +kernel
theorem d_X9_dropDue_35 : decode (zmc m_X9_dropDue) 35 = .ok (.ifCond .eq 10, 3) := by decide +kernel
theorem d_X9_dropDue_38 : decode (zmc m_X9_dropDue) 38 = .ok (.aload_n 0, 1) := by decide +kernel
theorem d_X9_dropDue_39 : decode (zmc m_X9_dropDue) 39 = .ok (.iconst 4, 1) := by decide +kernel
theorem d_X9_dropDue_40 : decode (zmc m_X9_dropDue) 40 = .ok (.iload_n 2, 1) := by decide +kernel
theorem d_X9_dropDue_41 : decode (zmc m_X9_dropDue) 41 = .ok (.iconst 0, 1) := by decide +kernel
theorem d_X9_dropDue_42 : decode (zmc m_X9_dropDue) 42 = .ok (.invokevirtual 53, 3) := by decide +kernel
theorem d_X9_dropDue_45 : decode (zmc m_X9_dropDue) 45 = .ok (.iinc 2 1, 3) := by decide +kernel
theorem d_X9_dropDue_48 : decode (zmc m_X9_dropDue) 48 = .ok (.goto (-26), 3) := by decide +kernel
theorem d_X9_dropDue_51 : decode (zmc m_X9_dropDue) 51 = .ok (.iload_n 1, 1) := by decide +kernel
theorem d_X9_dropDue_52 : decode (zmc m_X9_dropDue) 52 = .ok (.invokestatic 82, 3) := by decide +kernel
theorem d_X9_dropDue_55 : decode (zmc m_X9_dropDue) 55 = .ok (.istore_n 2, 1) := by decide +kernel
theorem d_X9_dropDue_56 : decode (zmc m_X9_dropDue) 56 = .ok (.aload_n 0, 1) := by decide +kernel
theorem d_X9_dropDue_57 : decode (zmc m_X9_dropDue) 57 = .ok (.getfield 20, 3) := by decide +kernel
theorem d_X9_dropDue_60 : decode (zmc m_X9_dropDue) 60 = .ok (.iconst 2, 1) := by decide +kernel
theorem d_X9_dropDue_61 : decode (zmc m_X9_dropDue) 61 = .ok (.dup2, 1) := by decide +kernel
theorem d_X9_dropDue_62 : decode (zmc m_X9_dropDue) 62 = .ok (.iaload, 1) := by decide +kernel
theorem d_X9_dropDue_63 : decode (zmc m_X9_dropDue) 63 = .ok (.iload_n 2, 1) := by decide +kernel
theorem d_X9_dropDue_64 : decode (zmc m_X9_dropDue) 64 = .ok (.iadd, 1) := by decide +kernel
theorem d_X9_dropDue_65 : decode (zmc m_X9_dropDue) 65 = .ok (.iastore, 1) := by decide +kernel
theorem d_X9_dropDue_66 : decode (zmc m_X9_dropDue) 66 = .ok (.iload_n 2, 1) := by decide +kernel
theorem d_X9_dropDue_67 : decode (zmc m_X9_dropDue) 67 = .ok (.ireturn, 1) := by decide +kernel
/-! THE SKY: what changes it -/
def zAdd (I : Nat → Nat → Int32) (ns : Nat) (c b s : Int32) : Int32 × (Nat → Nat → Int32) :=
  if ¬ (zMay 0 c ∧ zMay 1 b ∧ zMay 2 s) then (-1, I) else if ¬ zfind (I 3) c ns 0 = -2 then (-1, I) else if 10 ≤ ns then (-3, I) else (nI ns, zStarI I ns c b s)
def zThrI (I : Nat → Nat → Int32) (nt : Nat) (f : Int32) : Nat → Nat → Int32 := zup (zup (zup I 1 (zup (I 1) 4 (nI (nt + 1)))) 9 (zup (I 9) nt f)) 10 (zup (I 10) nt 3)
def zShpI (I : Nat → Nat → Int32) (nh : Nat) (v : Int32) : Nat → Nat → Int32 := zup (zup I 1 (zup (I 1) 5 (nI (nh + 1)))) 11 (zup (I 11) nh v)
def zDueI (I : Nat → Nat → Int32) (ns : Nat) : Nat → Nat → Int32 := zup (zup I 7 (zDownUp (zDue I ns) (I 7) ns 0)) 15 (zup (I 15) 2 (I 15 2 + zbc (zDue I ns)))
section S10
variable {g : zG} {l : Launch} {d : Nat} {I : Nat → Nat → Int32} {L : Nat → Nat → Int64} {fs : Nat × Nat × Option Nat} {ns nt nh : Nat}
theorem zSky_stars (hK : zSky I ns nt nh) (h : ns < 10) : zSky (zup I 1 (zup (I 1) 3 (nI (ns + 1)))) (ns + 1) nt nh := by
  obtain ⟨⟨k1, k2, k3⟩, k4, k5, k6⟩ := hK
  exact ⟨⟨rfl, k2, k3⟩, by omega, k5, k6⟩
theorem zSky_throwers (hK : zSky I ns nt nh) (h : nt < 4) : zSky (zup I 1 (zup (I 1) 4 (nI (nt + 1)))) ns (nt + 1) nh := by
  obtain ⟨⟨k1, k2, k3⟩, k4, k5, k6⟩ := hK
  exact ⟨⟨k1, rfl, k3⟩, k4, by omega, k6⟩
theorem zSky_ships (hK : zSky I ns nt nh) (h : nh < 6) : zSky (zup I 1 (zup (I 1) 5 (nI (nh + 1)))) ns nt (nh + 1) := by
  obtain ⟨⟨k1, k2, k3⟩, k4, k5, k6⟩ := hK
  exact ⟨⟨k1, k2, rfl⟩, k4, k5, by omega⟩
theorem sp_X9_addStar (hd : 4 ≤ d) (hK : zSky I ns nt nh) {c b s : Int32} : zSp g l d 100 m_X9_addStar [.ref 1, .int c, .int b, .int s] (zU I L fs) (zX (fun x w => x = (zAdd I ns c b s).1 ∧ w = zU (zAdd I ns c b s).2 L fs)) := by
  have k4 := hK.2.1
  have bad : ¬ (zMay 0 c ∧ zMay 1 b ∧ zMay 2 s) → zAdd I ns c b s = (-1, I) := fun h => by unfold zAdd; exact if_pos h
  refine zSp_of (lv := [(0, .ref 1), (1, .int c), (2, .int b), (3, .int s)]) k_X9_addStar rfl (Nat.le_of_ble_eq_true rfl) ?_
  refine zAloadN d_X9_addStar_0 rfl rfl (q := 1) rfl ?_
  refine zIconst d_X9_addStar_1 (v := 0) ic_0 (q := 2) rfl ?_
  refine zIloadN d_X9_addStar_2 rfl rfl (q := 3) rfl ?_
  refine zCallVP d_X9_addStar_3 ml_X9_50 k_X9_mayBe ki_X9_mayBe ks_X9_mayBe (sp_X9_mayBe (d := d - 1) (by omega) ) rfl rfl sh_1 (by decide) rfl (by decide) (Nat.le_of_ble_eq_true rfl) (by decide) (by omega) zns100 (q := 6) rfl ?_
  refine zIf_eq d_X9_addStar_6 (tgt := 27) (q := 9) (by decide) rfl (fun h6 => ?_) (fun h6 => ?_)
  · refine zIconst d_X9_addStar_27 (v := -1) ic_m1 (q := 28) rfl ?_
    refine zIret d_X9_addStar_28 rfl rfl rfl ?_
    first | exact ⟨_, rfl, by rw [bad (fun q => bi_0.mp h6 q.1)], by rw [bad (fun q => bi_0.mp h6 q.1)]⟩ | exact ⟨_, rfl, by rw [bad (fun q => bi_0.mp h15 q.2.1)], by rw [bad (fun q => bi_0.mp h15 q.2.1)]⟩ | exact ⟨_, rfl, by rw [bad (fun q => bi_0.mp h24 q.2.2)], by rw [bad (fun q => bi_0.mp h24 q.2.2)]⟩
  · refine zAloadN d_X9_addStar_9 rfl rfl (q := 10) rfl ?_
    refine zIconst d_X9_addStar_10 (v := 1) ic_1 (q := 11) rfl ?_
    refine zIloadN d_X9_addStar_11 rfl rfl (q := 12) rfl ?_
    refine zCallVP d_X9_addStar_12 ml_X9_50 k_X9_mayBe ki_X9_mayBe ks_X9_mayBe (sp_X9_mayBe (d := d - 1) (by omega) ) rfl rfl sh_1 (by decide) rfl (by decide) (Nat.le_of_ble_eq_true rfl) (by decide) (by omega) zns100 (q := 15) rfl ?_
    refine zIf_eq d_X9_addStar_15 (tgt := 27) (q := 18) (by decide) rfl (fun h15 => ?_) (fun h15 => ?_)
    · refine zIconst d_X9_addStar_27 (v := -1) ic_m1 (q := 28) rfl ?_
      refine zIret d_X9_addStar_28 rfl rfl rfl ?_
      first | exact ⟨_, rfl, by rw [bad (fun q => bi_0.mp h6 q.1)], by rw [bad (fun q => bi_0.mp h6 q.1)]⟩ | exact ⟨_, rfl, by rw [bad (fun q => bi_0.mp h15 q.2.1)], by rw [bad (fun q => bi_0.mp h15 q.2.1)]⟩ | exact ⟨_, rfl, by rw [bad (fun q => bi_0.mp h24 q.2.2)], by rw [bad (fun q => bi_0.mp h24 q.2.2)]⟩
    · refine zAloadN d_X9_addStar_18 rfl rfl (q := 19) rfl ?_
      refine zIconst d_X9_addStar_19 (v := 2) ic_2 (q := 20) rfl ?_
      refine zIloadN d_X9_addStar_20 rfl rfl (q := 21) rfl ?_
      refine zCallVP d_X9_addStar_21 ml_X9_50 k_X9_mayBe ki_X9_mayBe ks_X9_mayBe (sp_X9_mayBe (d := d - 1) (by omega) ) rfl rfl sh_1 (by decide) rfl (by decide) (Nat.le_of_ble_eq_true rfl) (by decide) (by omega) zns100 (q := 24) rfl ?_
      refine zIf_ne d_X9_addStar_24 (tgt := 29) (q := 27) (by decide) rfl (fun h24 => ?_) (fun h24 => ?_)
      · have hm : zMay 0 c ∧ zMay 1 b ∧ zMay 2 s := ⟨bi_n0.mp h6, bi_n0.mp h15, bi_n0.mp h24⟩
        refine zAloadN d_X9_addStar_29 rfl rfl (q := 30) rfl ?_
        refine zIloadN d_X9_addStar_30 rfl rfl (q := 31) rfl ?_
        refine zCallVP d_X9_addStar_31 ml_X9_47 k_X9_starIn ki_X9_starIn ks_X9_starIn (sp_X9_starIn (d := d - 1) (by omega) hK) rfl rfl sh_1 (by decide) rfl (by decide) (Nat.le_of_ble_eq_true rfl) (by decide) (by omega) zns100 (q := 34) rfl ?_
        refine zBipush d_X9_addStar_34 (v := -2) bc_m2 (q := 36) rfl ?_
        refine zIcmp_eq d_X9_addStar_36 (tgt := 41) (q := 39) (by decide) rfl (fun h36 => ?_) (fun h36 => ?_)
        · refine zAloadN d_X9_addStar_41 rfl rfl (q := 42) rfl ?_
          refine zGetI d_X9_addStar_42 ff_X9_23 sh_1 (by decide) (q := 45) rfl ?_
          refine zBipush d_X9_addStar_45 (v := 10) bc_10 (q := 47) rfl ?_
          refine zIcmp_lt d_X9_addStar_47 (tgt := 53) (q := 50) (by decide) rfl (fun h47 => ?_) (fun h47 => ?_)
          · have hlt : ns < 10 := by rw [hK.1.1] at h47; exact nlt (b := 10) h47
            refine zAloadN d_X9_addStar_53 rfl rfl (q := 54) rfl ?_
            refine zDup d_X9_addStar_54 rfl (q := 55) rfl ?_
            refine zGetI d_X9_addStar_55 ff_X9_23 sh_1 (by decide) (q := 58) rfl ?_
            refine zDupx1 d_X9_addStar_58 rfl rfl (q := 59) rfl ?_
            refine zIconst d_X9_addStar_59 (v := 1) ic_1 (q := 60) rfl ?_
            refine zIadd d_X9_addStar_60 (q := 61) rfl ?_
            refine zPutI d_X9_addStar_61 ff_X9_23 rfl rfl rfl sh_1 (by decide) (q := 64) rfl ?_
            refine zIstore d_X9_addStar_64 (by decide) rfl (q := 66) rfl ?_
            rw [hK.1.1, nI_1]
            have hK1 := zSky_stars hK hlt
            have e : zAdd I ns c b s = (nI ns, zStarI I ns c b s) := by unfold zAdd; rw [if_neg (fun q => q hm), if_neg (fun q => q h36), if_neg (by omega)]
            refine zAloadN d_X9_addStar_66 rfl rfl (q := 67) rfl ?_
            refine zIconst d_X9_addStar_67 (v := 0) ic_0 (q := 68) rfl ?_
            refine zIload d_X9_addStar_68 rfl (q := 70) rfl ?_
            refine zIloadN d_X9_addStar_70 rfl rfl (q := 71) rfl ?_
            refine zCallVV d_X9_addStar_71 ml_X9_53 k_X9_set ki_X9_set ks_X9_set (sp_set0 (d := d - 1) (by omega) hK1 (k := ns) (by omega)) rfl rfl sh_1 (by decide) rfl (by decide) (Nat.le_of_ble_eq_true rfl) (by decide) (by omega) zns100 (q := 74) rfl (fun w' hw' => ?_)
            subst hw'
            have hK2 := zSky_up (a := 3) (f := zup (I 3) ns c) hK1 (by decide)
            refine zAloadN d_X9_addStar_74 rfl rfl (q := 75) rfl ?_
            refine zIconst d_X9_addStar_75 (v := 1) ic_1 (q := 76) rfl ?_
            refine zIload d_X9_addStar_76 rfl (q := 78) rfl ?_
            refine zIloadN d_X9_addStar_78 rfl rfl (q := 79) rfl ?_
            refine zCallVV d_X9_addStar_79 ml_X9_53 k_X9_set ki_X9_set ks_X9_set (sp_set1 (d := d - 1) (by omega) hK2 (k := ns) (by omega)) rfl rfl sh_1 (by decide) rfl (by decide) (Nat.le_of_ble_eq_true rfl) (by decide) (by omega) zns100 (q := 82) rfl (fun w' hw' => ?_)
            subst hw'
            have hK3 := zSky_up (a := 4) (f := zup (I 4) ns b) hK2 (by decide)
            refine zAloadN d_X9_addStar_82 rfl rfl (q := 83) rfl ?_
            refine zIconst d_X9_addStar_83 (v := 2) ic_2 (q := 84) rfl ?_
            refine zIload d_X9_addStar_84 rfl (q := 86) rfl ?_
            refine zIloadN d_X9_addStar_86 rfl rfl (q := 87) rfl ?_
            refine zCallVV d_X9_addStar_87 ml_X9_53 k_X9_set ki_X9_set ks_X9_set (sp_set2 (d := d - 1) (by omega) hK3 (k := ns) (by omega)) rfl rfl sh_1 (by decide) rfl (by decide) (Nat.le_of_ble_eq_true rfl) (by decide) (by omega) zns100 (q := 90) rfl (fun w' hw' => ?_)
            subst hw'
            have hK4 := zSky_up (a := 5) (f := zup (I 5) ns s) hK3 (by decide)
            refine zAloadN d_X9_addStar_90 rfl rfl (q := 91) rfl ?_
            refine zIconst d_X9_addStar_91 (v := 3) ic_3 (q := 92) rfl ?_
            refine zIload d_X9_addStar_92 rfl (q := 94) rfl ?_
            refine zIconst d_X9_addStar_94 (v := 5) ic_5 (q := 95) rfl ?_
            refine zCallVV d_X9_addStar_95 ml_X9_53 k_X9_set ki_X9_set ks_X9_set (sp_set3 (d := d - 1) (by omega) hK4 (k := ns) (by omega)) rfl rfl sh_1 (by decide) rfl (by decide) (Nat.le_of_ble_eq_true rfl) (by decide) (by omega) zns100 (q := 98) rfl (fun w' hw' => ?_)
            subst hw'
            refine zIload d_X9_addStar_98 rfl (q := 100) rfl ?_
            refine zIret d_X9_addStar_100 rfl rfl rfl ?_
            exact ⟨_, rfl, by rw [e], by rw [e]; rfl⟩
          · refine zBipush d_X9_addStar_50 (v := -3) bc_m3 (q := 52) rfl ?_
            refine zIret d_X9_addStar_52 rfl rfl rfl ?_
            have e : zAdd I ns c b s = (-3, I) := by unfold zAdd; rw [if_neg (fun q => q hm), if_neg (fun q => q h36), if_pos (by rw [hK.1.1] at h47; exact nnlt (b := 10) h47)]
            exact ⟨_, rfl, by rw [e], by rw [e]⟩
        · refine zIconst d_X9_addStar_39 (v := -1) ic_m1 (q := 40) rfl ?_
          refine zIret d_X9_addStar_40 rfl rfl rfl ?_
          have e : zAdd I ns c b s = (-1, I) := by unfold zAdd; rw [if_neg (fun q => q hm), if_pos h36]
          exact ⟨_, rfl, by rw [e], by rw [e]⟩
      · refine zIconst d_X9_addStar_27 (v := -1) ic_m1 (q := 28) rfl ?_
        refine zIret d_X9_addStar_28 rfl rfl rfl ?_
        first | exact ⟨_, rfl, by rw [bad (fun q => bi_0.mp h6 q.1)], by rw [bad (fun q => bi_0.mp h6 q.1)]⟩ | exact ⟨_, rfl, by rw [bad (fun q => bi_0.mp h15 q.2.1)], by rw [bad (fun q => bi_0.mp h15 q.2.1)]⟩ | exact ⟨_, rfl, by rw [bad (fun q => bi_0.mp h24 q.2.2)], by rw [bad (fun q => bi_0.mp h24 q.2.2)]⟩
theorem sp_X9_addThrower (hd : 4 ≤ d) (hK : zSky I ns nt nh) {f : Int32} : zSp g l d 100 m_X9_addThrower [.ref 1, .int f] (zU I L fs) (zX (fun x w => (¬ zMay 6 f ∧ x = -1 ∧ w = zU I L fs) ∨ (zMay 6 f ∧ 4 ≤ nt ∧ x = -3 ∧ w = zU I L fs) ∨ (zMay 6 f ∧ nt < 4 ∧ x = nI nt ∧ w = zU (zThrI I nt f) L fs))) := by
  have k4 := hK.2.2.1
  refine zSp_of (lv := [(0, .ref 1), (1, .int f)]) k_X9_addThrower rfl (Nat.le_of_ble_eq_true rfl) ?_
  refine zAloadN d_X9_addThrower_0 rfl rfl (q := 1) rfl ?_
  refine zBipush d_X9_addThrower_1 (v := 6) bc_6 (q := 3) rfl ?_
  refine zIloadN d_X9_addThrower_3 rfl rfl (q := 4) rfl ?_
  refine zCallVP d_X9_addThrower_4 ml_X9_50 k_X9_mayBe ki_X9_mayBe ks_X9_mayBe (sp_X9_mayBe (d := d - 1) (by omega) ) rfl rfl sh_1 (by decide) rfl (by decide) (Nat.le_of_ble_eq_true rfl) (by decide) (by omega) zns100 (q := 7) rfl ?_
  refine zIf_ne d_X9_addThrower_7 (tgt := 12) (q := 10) (by decide) rfl (fun h7 => ?_) (fun h7 => ?_)
  · refine zAloadN d_X9_addThrower_12 rfl rfl (q := 13) rfl ?_
    refine zGetI d_X9_addThrower_13 ff_X9_27 sh_1 (by decide) (q := 16) rfl ?_
    refine zIconst d_X9_addThrower_16 (v := 4) ic_4 (q := 17) rfl ?_
    refine zIcmp_lt d_X9_addThrower_17 (tgt := 23) (q := 20) (by decide) rfl (fun h17 => ?_) (fun h17 => ?_)
    · have hlt : nt < 4 := by rw [hK.1.2.1] at h17; exact nlt (b := 4) h17
      refine zAloadN d_X9_addThrower_23 rfl rfl (q := 24) rfl ?_
      refine zDup d_X9_addThrower_24 rfl (q := 25) rfl ?_
      refine zGetI d_X9_addThrower_25 ff_X9_27 sh_1 (by decide) (q := 28) rfl ?_
      refine zDupx1 d_X9_addThrower_28 rfl rfl (q := 29) rfl ?_
      refine zIconst d_X9_addThrower_29 (v := 1) ic_1 (q := 30) rfl ?_
      refine zIadd d_X9_addThrower_30 (q := 31) rfl ?_
      refine zPutI d_X9_addThrower_31 ff_X9_27 rfl rfl rfl sh_1 (by decide) (q := 34) rfl ?_
      refine zIstoreN d_X9_addThrower_34 rfl (by decide) rfl (q := 35) rfl ?_
      rw [hK.1.2.1, nI_1]
      have hK1 := zSky_throwers hK hlt
      refine zAloadN d_X9_addThrower_35 rfl rfl (q := 36) rfl ?_
      refine zBipush d_X9_addThrower_36 (v := 6) bc_6 (q := 38) rfl ?_
      refine zIloadN d_X9_addThrower_38 rfl rfl (q := 39) rfl ?_
      refine zIloadN d_X9_addThrower_39 rfl rfl (q := 40) rfl ?_
      refine zCallVV d_X9_addThrower_40 ml_X9_53 k_X9_set ki_X9_set ks_X9_set (sp_set6 (d := d - 1) (by omega) hK1 (k := nt) (by omega)) rfl rfl sh_1 (by decide) rfl (by decide) (Nat.le_of_ble_eq_true rfl) (by decide) (by omega) zns100 (q := 43) rfl (fun w' hw' => ?_)
      subst hw'
      have hK2 := zSky_up (a := 9) (f := zup (I 9) nt f) hK1 (by decide)
      refine zAloadN d_X9_addThrower_43 rfl rfl (q := 44) rfl ?_
      refine zBipush d_X9_addThrower_44 (v := 7) bc_7 (q := 46) rfl ?_
      refine zIloadN d_X9_addThrower_46 rfl rfl (q := 47) rfl ?_
      refine zIconst d_X9_addThrower_47 (v := 3) ic_3 (q := 48) rfl ?_
      refine zCallVV d_X9_addThrower_48 ml_X9_53 k_X9_set ki_X9_set ks_X9_set (sp_set7 (d := d - 1) (by omega) hK2 (k := nt) (by omega)) rfl rfl sh_1 (by decide) rfl (by decide) (Nat.le_of_ble_eq_true rfl) (by decide) (by omega) zns100 (q := 51) rfl (fun w' hw' => ?_)
      subst hw'
      refine zIloadN d_X9_addThrower_51 rfl rfl (q := 52) rfl ?_
      refine zIret d_X9_addThrower_52 rfl rfl rfl ?_
      exact ⟨_, rfl, Or.inr (Or.inr ⟨bi_n0.mp h7, hlt, rfl, rfl⟩)⟩
    · refine zBipush d_X9_addThrower_20 (v := -3) bc_m3 (q := 22) rfl ?_
      refine zIret d_X9_addThrower_22 rfl rfl rfl ?_
      exact ⟨_, rfl, Or.inr (Or.inl ⟨bi_n0.mp h7, by rw [hK.1.2.1] at h17; exact nnlt (b := 4) h17, rfl, rfl⟩)⟩
  · refine zIconst d_X9_addThrower_10 (v := -1) ic_m1 (q := 11) rfl ?_
    refine zIret d_X9_addThrower_11 rfl rfl rfl ?_
    exact ⟨_, rfl, Or.inl ⟨bi_0.mp h7, rfl, rfl⟩⟩
theorem sp_X9_addShip (hd : 4 ≤ d) (hK : zSky I ns nt nh) {f : Int32} : zSp g l d 100 m_X9_addShip [.ref 1, .int f] (zU I L fs) (zX (fun x w => (¬ zMay 8 f ∧ x = -1 ∧ w = zU I L fs) ∨ (zMay 8 f ∧ 6 ≤ nh ∧ x = -3 ∧ w = zU I L fs) ∨ (zMay 8 f ∧ nh < 6 ∧ x = nI nh ∧ w = zU (zShpI I nh f) L fs))) := by
  have k4 := hK.2.2.2
  refine zSp_of (lv := [(0, .ref 1), (1, .int f)]) k_X9_addShip rfl (Nat.le_of_ble_eq_true rfl) ?_
  refine zAloadN d_X9_addShip_0 rfl rfl (q := 1) rfl ?_
  refine zBipush d_X9_addShip_1 (v := 8) bc_8 (q := 3) rfl ?_
  refine zIloadN d_X9_addShip_3 rfl rfl (q := 4) rfl ?_
  refine zCallVP d_X9_addShip_4 ml_X9_50 k_X9_mayBe ki_X9_mayBe ks_X9_mayBe (sp_X9_mayBe (d := d - 1) (by omega) ) rfl rfl sh_1 (by decide) rfl (by decide) (Nat.le_of_ble_eq_true rfl) (by decide) (by omega) zns100 (q := 7) rfl ?_
  refine zIf_ne d_X9_addShip_7 (tgt := 12) (q := 10) (by decide) rfl (fun h7 => ?_) (fun h7 => ?_)
  · refine zAloadN d_X9_addShip_12 rfl rfl (q := 13) rfl ?_
    refine zGetI d_X9_addShip_13 ff_X9_30 sh_1 (by decide) (q := 16) rfl ?_
    refine zBipush d_X9_addShip_16 (v := 6) bc_6 (q := 18) rfl ?_
    refine zIcmp_lt d_X9_addShip_18 (tgt := 24) (q := 21) (by decide) rfl (fun h18 => ?_) (fun h18 => ?_)
    · have hlt : nh < 6 := by rw [hK.1.2.2] at h18; exact nlt (b := 6) h18
      refine zAloadN d_X9_addShip_24 rfl rfl (q := 25) rfl ?_
      refine zDup d_X9_addShip_25 rfl (q := 26) rfl ?_
      refine zGetI d_X9_addShip_26 ff_X9_30 sh_1 (by decide) (q := 29) rfl ?_
      refine zDupx1 d_X9_addShip_29 rfl rfl (q := 30) rfl ?_
      refine zIconst d_X9_addShip_30 (v := 1) ic_1 (q := 31) rfl ?_
      refine zIadd d_X9_addShip_31 (q := 32) rfl ?_
      refine zPutI d_X9_addShip_32 ff_X9_30 rfl rfl rfl sh_1 (by decide) (q := 35) rfl ?_
      refine zIstoreN d_X9_addShip_35 rfl (by decide) rfl (q := 36) rfl ?_
      rw [hK.1.2.2, nI_1]
      have hK1 := zSky_ships hK hlt
      refine zAloadN d_X9_addShip_36 rfl rfl (q := 37) rfl ?_
      refine zBipush d_X9_addShip_37 (v := 8) bc_8 (q := 39) rfl ?_
      refine zIloadN d_X9_addShip_39 rfl rfl (q := 40) rfl ?_
      refine zIloadN d_X9_addShip_40 rfl rfl (q := 41) rfl ?_
      refine zCallVV d_X9_addShip_41 ml_X9_53 k_X9_set ki_X9_set ks_X9_set (sp_set8 (d := d - 1) (by omega) hK1 (k := nh) (by omega)) rfl rfl sh_1 (by decide) rfl (by decide) (Nat.le_of_ble_eq_true rfl) (by decide) (by omega) zns100 (q := 44) rfl (fun w' hw' => ?_)
      subst hw'
      refine zIloadN d_X9_addShip_44 rfl rfl (q := 45) rfl ?_
      refine zIret d_X9_addShip_45 rfl rfl rfl ?_
      exact ⟨_, rfl, Or.inr (Or.inr ⟨bi_n0.mp h7, hlt, rfl, rfl⟩)⟩
    · refine zBipush d_X9_addShip_21 (v := -3) bc_m3 (q := 23) rfl ?_
      refine zIret d_X9_addShip_23 rfl rfl rfl ?_
      exact ⟨_, rfl, Or.inr (Or.inl ⟨bi_n0.mp h7, by rw [hK.1.2.2] at h18; exact nnlt (b := 6) h18, rfl, rfl⟩)⟩
  · refine zIconst d_X9_addShip_10 (v := -1) ic_m1 (q := 11) rfl ?_
    refine zIret d_X9_addShip_11 rfl rfl rfl ?_
    exact ⟨_, rfl, Or.inl ⟨bi_0.mp h7, rfl, rfl⟩⟩
theorem sp_X9_dropDue (hd : 6 ≤ d) (hK : zSky I ns nt nh) : zSp g l d 100 m_X9_dropDue [.ref 1] (zU I L fs) (zX (fun x w => x = zbc (zDue I ns) ∧ w = zU (zDueI I ns) L fs)) := by
  have hn := hK.2.1
  have loop : ∀ k, k ≤ ns → ∀ f, zDownUp (zDue I ns) f ns k = zDownUp (zDue I ns) (I 7) ns 0 → zA g l d m_X9_dropDue (zup I 7 f) L fs 22 [(2, .int (nI k)), (1, .int (zDue I ns)), (0, .ref 1)] (zX (fun x w => x = zbc (zDue I ns) ∧ w = zU (zDueI I ns) L fs)) := by
    refine zloop ns (fun k hk ih f hx => ?_)
    have hK1 := zSky_up (a := 7) (f := f) hK (by decide)
    refine zIloadN d_X9_dropDue_22 rfl rfl (q := 23) rfl ?_
    refine zAloadN d_X9_dropDue_23 rfl rfl (q := 24) rfl ?_
    refine zGetI d_X9_dropDue_24 ff_X9_23 sh_1 (by decide) (q := 27) rfl ?_
    refine zIcmp_ge d_X9_dropDue_27 (tgt := 51) (q := 30) (by decide) rfl (fun h27 => ?_) (fun h27 => ?_)
    · have e := nle (hK1.1.1 ▸ h27)
      have ef : f = zDownUp (zDue I ns) (I 7) ns 0 := by rw [← hx]; unfold zDownUp; rw [zfor_end e]
      refine zIloadN d_X9_dropDue_51 rfl rfl (q := 52) rfl ?_
      refine zCallSP d_X9_dropDue_52 ml_X9_82 k_J6_bitCount kt_J6_bitCount (sp_J6_bitCount (d := d - 1) (by omega) ) rfl rfl (Nat.le_of_ble_eq_true rfl) (by decide) (by omega) zns100 (q := 55) rfl ?_
      refine zIstoreN d_X9_dropDue_55 rfl (by decide) rfl (q := 56) rfl ?_
      refine zAloadN d_X9_dropDue_56 rfl rfl (q := 57) rfl ?_
      refine zGetR d_X9_dropDue_57 ff_X9_20 sh_1 (by decide) r_1_2 (q := 60) rfl ?_
      refine zIconst d_X9_dropDue_60 (v := 2) ic_2 (q := 61) rfl ?_
      refine zDup2 d_X9_dropDue_61 rfl rfl (q := 62) rfl ?_
      refine zIald d_X9_dropDue_62 sh_15 (by decide) (j := 2) rfl (by decide) (q := 63) rfl ?_
      refine zIloadN d_X9_dropDue_63 rfl rfl (q := 64) rfl ?_
      refine zIadd d_X9_dropDue_64 (q := 65) rfl ?_
      refine zIast d_X9_dropDue_65 sh_15 (by decide) (j := 2) rfl (by decide) (q := 66) rfl ?_
      refine zIloadN d_X9_dropDue_66 rfl rfl (q := 67) rfl ?_
      refine zIret d_X9_dropDue_67 rfl rfl rfl ?_
      exact ⟨_, rfl, rfl, by rw [ef]; rfl⟩
    · have hlt := nnle (hK1.1.1 ▸ h27)
      unfold zDownUp at hx
      rw [zfor_step hlt] at hx
      refine zIloadN d_X9_dropDue_30 rfl rfl (q := 31) rfl ?_
      refine zIloadN d_X9_dropDue_31 rfl rfl (q := 32) rfl ?_
      refine zIshr d_X9_dropDue_32 (q := 33) rfl ?_
      refine zIconst d_X9_dropDue_33 (v := 1) ic_1 (q := 34) rfl ?_
      refine zIand d_X9_dropDue_34 (q := 35) rfl ?_
      refine zIf_eq d_X9_dropDue_35 (tgt := 45) (q := 38) (by decide) rfl (fun h35 => ?_) (fun h35 => ?_)
      · refine zIinc d_X9_dropDue_45 rfl (zinc _) (by decide) rfl (q := 48) rfl ?_
        refine zGoto d_X9_dropDue_48 (q := 22) (by decide) ?_
        refine zSub [0, 1, 2] rfl ?_
        exact ih hlt _ (by unfold zDownUp; rw [← hx]; congr 1; first | exact (if_pos h35).symm | exact (if_neg h35).symm)
      · refine zAloadN d_X9_dropDue_38 rfl rfl (q := 39) rfl ?_
        refine zIconst d_X9_dropDue_39 (v := 4) ic_4 (q := 40) rfl ?_
        refine zIloadN d_X9_dropDue_40 rfl rfl (q := 41) rfl ?_
        refine zIconst d_X9_dropDue_41 (v := 0) ic_0 (q := 42) rfl ?_
        refine zCallVV d_X9_dropDue_42 ml_X9_53 k_X9_set ki_X9_set ks_X9_set (sp_set4 (d := d - 1) (by omega) hK1 hlt) rfl rfl sh_1 (by decide) rfl (by decide) (Nat.le_of_ble_eq_true rfl) (by decide) (by omega) zns100 (q := 45) rfl (fun w' hw' => ?_)
        subst hw'
        rw [zup_zup, zup_eq]
        refine zIinc d_X9_dropDue_45 rfl (zinc _) (by decide) rfl (q := 48) rfl ?_
        refine zGoto d_X9_dropDue_48 (q := 22) (by decide) ?_
        refine zSub [0, 1, 2] rfl ?_
        exact ih hlt _ (by unfold zDownUp; rw [← hx]; congr 1; first | exact (if_pos h35).symm | exact (if_neg h35).symm)
  have e7 : zup I 7 (I 7) = I := by funext a; unfold zup; split <;> simp_all
  refine zSp_of (lv := [(0, .ref 1)]) k_X9_dropDue rfl (Nat.le_of_ble_eq_true rfl) ?_
  refine zAloadN d_X9_dropDue_0 rfl rfl (q := 1) rfl ?_
  refine zIconst d_X9_dropDue_1 (v := 4) ic_4 (q := 2) rfl ?_
  refine zCallVP d_X9_dropDue_2 ml_X9_61 k_X9_bits ki_X9_bits ks_X9_bits (sp_X9_bits4 (d := d - 1) (by omega) hK) rfl rfl sh_1 (by decide) rfl (by decide) (Nat.le_of_ble_eq_true rfl) (by decide) (by omega) zns100 (q := 5) rfl ?_
  refine zAloadN d_X9_dropDue_5 rfl rfl (q := 6) rfl ?_
  refine zAloadN d_X9_dropDue_6 rfl rfl (q := 7) rfl ?_
  refine zBipush d_X9_dropDue_7 (v := 9) bc_9 (q := 9) rfl ?_
  refine zIconst d_X9_dropDue_9 (v := 0) ic_0 (q := 10) rfl ?_
  refine zCallVP d_X9_dropDue_10 ml_X9_57 k_X9_get ki_X9_get ks_X9_get (sp_get9 (d := d - 1) (by omega) hK) rfl rfl sh_1 (by decide) rfl (by decide) (Nat.le_of_ble_eq_true rfl) (by decide) (by omega) zns100 (q := 13) rfl ?_
  refine zCallVP d_X9_dropDue_13 ml_X9_79 k_X9_upAfter ki_X9_upAfter ks_X9_upAfter (sp_X9_upAfter (d := d - 1) (by omega) hK) rfl rfl sh_1 (by decide) rfl (by decide) (Nat.le_of_ble_eq_true rfl) (by decide) (by omega) zns100 (q := 16) rfl ?_
  refine zIconst d_X9_dropDue_16 (v := -1) ic_m1 (q := 17) rfl ?_
  refine zIxor d_X9_dropDue_17 (q := 18) rfl ?_
  refine zIand d_X9_dropDue_18 (q := 19) rfl ?_
  refine zIstoreN d_X9_dropDue_19 rfl (by decide) rfl (q := 20) rfl ?_
  refine zIconst d_X9_dropDue_20 (v := 0) ic_0 (q := 21) rfl ?_
  refine zIstoreN d_X9_dropDue_21 rfl (by decide) rfl (q := 22) rfl ?_
  refine zSub [0, 1, 2] rfl ?_
  exact (e7 ▸ loop 0 (Nat.zero_le _) (I 7) rfl : zA g l d m_X9_dropDue I L fs 22 [(2, .int (nI 0)), (1, .int (zDue I ns)), (0, .ref 1)] _)
end S10
end
section
theorem d_X8_hasPlace_0 : decode (zmc m_X8_hasPlace) 0 = .ok (.iload_n 1, 1) := by decide +kernel
theorem d_X8_hasPlace_1 : decode (zmc m_X8_hasPlace) 1 = .ok (.ifCond .lt 15, 3) := by decide +kernel
theorem d_X8_hasPlace_4 : decode (zmc m_X8_hasPlace) 4 = .ok (.iload_n 1, 1) := by decide +kernel
theorem d_X8_hasPlace_5 : decode (zmc m_X8_hasPlace) 5 = .ok (.aload_n 0, 1) := by decide +kernel
theorem d_X8_hasPlace_6 : decode (zmc m_X8_hasPlace) 6 = .ok (.getfield 35, 3) := by decide +kernel
theorem d_X8_hasPlace_9 : decode (zmc m_X8_hasPlace) 9 = .ok (.if_icmp .ge 7, 3) := by decide +kernel
theorem d_X8_hasPlace_12 : decode (zmc m_X8_hasPlace) 12 = .ok (.iconst 1, 1) := by decide +kernel
theorem d_X8_hasPlace_13 : decode (zmc m_X8_hasPlace) 13 = .ok (.goto 4, 3) := by decide +kernel
theorem d_X8_hasPlace_16 : decode (zmc m_X8_hasPlace) 16 = .ok (.iconst 0, 1) := by decide +kernel
theorem d_X8_hasPlace_17 : decode (zmc m_X8_hasPlace) 17 = .ok (.ireturn, 1) := by decide +kernel
theorem d_X8_hasRun_0 : decode (zmc m_X8_hasRun) 0 = .ok (.iload_n 1, 1) := by decide +kernel
theorem d_X8_hasRun_1 : decode (zmc m_X8_hasRun) 1 = .ok (.ifCond .lt 25, 3) := by decide +kernel
theorem d_X8_hasRun_4 : decode (zmc m_X8_hasRun) 4 = .ok (.iload_n 1, 1) := by decide +kernel
theorem d_X8_hasRun_5 : decode (zmc m_X8_hasRun) 5 = .ok (.aload_n 0, 1) := by decide +kernel
theorem d_X8_hasRun_6 : decode (zmc m_X8_hasRun) 6 = .ok (.getfield 35, 3) := by decide +kernel
theorem d_X8_hasRun_9 : decode (zmc m_X8_hasRun) 9 = .ok (.if_icmp .gt 17, 3) := by decide +kernel
theorem d_X8_hasRun_12 : decode (zmc m_X8_hasRun) 12 = .ok (.iload_n 2, 1) := by decide +kernel
theorem d_X8_hasRun_13 : decode (zmc m_X8_hasRun) 13 = .ok (.aload_n 0, 1) := by decide +kernel
theorem d_X8_hasRun_14 : decode (zmc m_X8_hasRun) 14 = .ok (.getfield 35, 3) := by decide +kernel
theorem d_X8_hasRun_17 : decode (zmc m_X8_hasRun) 17 = .ok (.iload_n 1, 1) := by decide +kernel
theorem d_X8_hasRun_18 : decode (zmc m_X8_hasRun) 18 = .ok (.isub, 1) := by decide +kernel
theorem d_X8_hasRun_19 : decode (zmc m_X8_hasRun) 19 = .ok (.if_icmp .gt 7, 3) := by decide +kernel
theorem d_X8_hasRun_22 : decode (zmc m_X8_hasRun) 22 = .ok (.iconst 1, 1) := by decide +kernel
theorem d_X8_hasRun_23 : decode (zmc m_X8_hasRun) 23 = .ok (.goto 4, 3) := by decide +kernel
theorem d_X8_hasRun_26 : decode (zmc m_X8_hasRun) 26 = .ok (.iconst 0, 1) := by decide +kernel
theorem d_X8_hasRun_27 : decode (zmc m_X8_hasRun) 27 = .ok (.ireturn, 1) := by decide +kernel
theorem d_X8_holdBody_0 : decode (zmc m_X8_holdBody) 0 = .ok (.aload_n 0, 1) := by decide +kernel
theorem d_X8_holdBody_1 : decode (zmc m_X8_holdBody) 1 = .ok (.iconst 5, 1) := by decide +kernel
theorem d_X8_holdBody_2 : decode (zmc m_X8_holdBody) 2 = .ok (.putfield 15, 3) := by decide +kernel
theorem d_X8_holdBody_5 : decode (zmc m_X8_holdBody) 5 = .ok (.aload_n 0, 1) := by decide +kernel
theorem d_X8_holdBody_6 : decode (zmc m_X8_holdBody) 6 = .ok (.iload_n 1, 1) := by decide +kernel
theorem d_X8_holdBody_7 : decode (zmc m_X8_holdBody) 7 = .ok (.putfield 23, 3) := by decide +kernel
theorem d_X8_holdBody_10 : decode (zmc m_X8_holdBody) 10 = .ok (.return_, 1) := by decide +kernel
theorem d_X8_holdNothing_0 : decode (zmc m_X8_holdNothing) 0 = .ok (.aload_n 0, 1) := by decide +kernel
theorem d_X8_holdNothing_1 : decode (zmc m_X8_holdNothing) 1 = .ok (.iconst (-1), 1) := by decide +kernel
theorem d_X8_holdNothing_2 : decode (zmc m_X8_holdNothing) 2 = .ok (.putfield 15, 3) := by decide +kernel
theorem d_X8_holdNothing_5 : decode (zmc m_X8_holdNothing) 5 = .ok (.return_, 1) := by decide +kernel
theorem d_X8_holdRow_0 : decode (zmc m_X8_holdRow) 0 = .ok (.aload_n 0, 1) := by decide +kernel
theorem d_X8_holdRow_1 : decode (zmc m_X8_holdRow) 1 = .ok (.iload_n 1, 1) := by decide +kernel
theorem d_X8_holdRow_2 : decode (zmc m_X8_holdRow) 2 = .ok (.putfield 15, 3) := by decide +kernel
theorem d_X8_holdRow_5 : decode (zmc m_X8_holdRow) 5 = .ok (.aload_n 0, 1) := by decide +kernel
theorem d_X8_holdRow_6 : decode (zmc m_X8_holdRow) 6 = .ok (.iconst 0, 1) := by decide +kernel
theorem d_X8_holdRow_7 : decode (zmc m_X8_holdRow) 7 = .ok (.bipush 60, 2) := by decide +kernel
theorem d_X8_holdRow_9 : decode (zmc m_X8_holdRow) 9 = .ok (.iload_n 2, 1) := by decide +kernel
theorem d_X8_holdRow_10 : decode (zmc m_X8_holdRow) 10 = .ok (.invokestatic 26, 3) := by decide +kernel
theorem d_X8_holdRow_13 : decode (zmc m_X8_holdRow) 13 = .ok (.invokestatic 32, 3) := by decide +kernel
theorem d_X8_holdRow_16 : decode (zmc m_X8_holdRow) 16 = .ok (.putfield 35, 3) := by decide +kernel
theorem d_X8_holdRow_19 : decode (zmc m_X8_holdRow) 19 = .ok (.iconst 0, 1) := by decide +kernel
theorem d_X8_holdRow_20 : decode (zmc m_X8_holdRow) 20 = .ok (.istore_n 3, 1) := by decide +kernel
theorem d_X8_holdRow_21 : decode (zmc m_X8_holdRow) 21 = .ok (.iload_n 3, 1) := by decide +kernel
theorem d_X8_holdRow_22 : decode (zmc m_X8_holdRow) 22 = .ok (.bipush 60, 2) := by decide +kernel
theorem d_X8_holdRow_24 : decode (zmc m_X8_holdRow) 24 = .ok (.if_icmp .ge 16, 3) := by decide +kernel
theorem d_X8_holdRow_27 : decode (zmc m_X8_holdRow) 27 = .ok (.aload_n 0, 1) := by decide +kernel
theorem d_X8_holdRow_28 : decode (zmc m_X8_holdRow) 28 = .ok (.getfield 11, 3) := by decide +kernel
theorem d_X8_holdRow_31 : decode (zmc m_X8_holdRow) 31 = .ok (.iload_n 3, 1) := by decide +kernel
theorem d_X8_holdRow_32 : decode (zmc m_X8_holdRow) 32 = .ok (.lconst 0, 1) := by decide +kernel
theorem d_X8_holdRow_33 : decode (zmc m_X8_holdRow) 33 = .ok (.lastore, 1) := by decide +kernel
theorem d_X8_holdRow_34 : decode (zmc m_X8_holdRow) 34 = .ok (.iinc 3 1, 3) := by decide +kernel
theorem d_X8_holdRow_37 : decode (zmc m_X8_holdRow) 37 = .ok (.goto (-16), 3) := by decide +kernel
theorem d_X8_holdRow_40 : decode (zmc m_X8_holdRow) 40 = .ok (.return_, 1) := by decide +kernel
theorem d_X8_isBody_0 : decode (zmc m_X8_isBody) 0 = .ok (.aload_n 0, 1) := by decide +kernel
theorem d_X8_isBody_1 : decode (zmc m_X8_isBody) 1 = .ok (.getfield 15, 3) := by decide +kernel
theorem d_X8_isBody_4 : decode (zmc m_X8_isBody) 4 = .ok (.iconst 5, 1) := by decide +kernel
theorem d_X8_isBody_5 : decode (zmc m_X8_isBody) 5 = .ok (.if_icmp .ne 7, 3) := by decide +kernel
theorem d_X8_isBody_8 : decode (zmc m_X8_isBody) 8 = .ok (.iconst 1, 1) := by decide +kernel
theorem d_X8_isBody_9 : decode (zmc m_X8_isBody) 9 = .ok (.goto 4, 3) := by decide +kernel
theorem d_X8_isBody_12 : decode (zmc m_X8_isBody) 12 = .ok (.iconst 0, 1) := by decide +kernel
theorem d_X8_isBody_13 : decode (zmc m_X8_isBody) 13 = .ok (.ireturn, 1) := by decide +kernel
theorem d_X8_isBytes_0 : decode (zmc m_X8_isBytes) 0 = .ok (.aload_n 0, 1) := by decide +kernel
theorem d_X8_isBytes_1 : decode (zmc m_X8_isBytes) 1 = .ok (.getfield 15, 3) := by decide +kernel
theorem d_X8_isBytes_4 : decode (zmc m_X8_isBytes) 4 = .ok (.ifCond .ne 7, 3) := by decide +kernel
theorem d_X8_isBytes_7 : decode (zmc m_X8_isBytes) 7 = .ok (.iconst 1, 1) := by decide +kernel
theorem d_X8_isBytes_8 : decode (zmc m_X8_isBytes) 8 = .ok (.goto 4, 3) := by decide +kernel
theorem d_X8_isBytes_11 : decode (zmc m_X8_isBytes) 11 = .ok (.iconst 0, 1) := by decide +kernel
theorem d_X8_isBytes_12 : decode (zmc m_X8_isBytes) 12 = .ok (.ireturn, 1) := by decide +kernel
theorem d_X8_isEmpty_0 : decode (zmc m_X8_isEmpty) 0 = .ok (.aload_n 0, 1) := by decide +kernel
theorem d_X8_isEmpty_1 : decode (zmc m_X8_isEmpty) 1 = .ok (.getfield 15, 3) := by decide +kernel
theorem d_X8_isEmpty_4 : decode (zmc m_X8_isEmpty) 4 = .ok (.iconst (-1), 1) := by decide +kernel
theorem d_X8_isEmpty_5 : decode (zmc m_X8_isEmpty) 5 = .ok (.if_icmp .ne 7, 3) := by decide +kernel
theorem d_X8_isEmpty_8 : decode (zmc m_X8_isEmpty) 8 = .ok (.iconst 1, 1) := by decide +kernel
theorem d_X8_isEmpty_9 : decode (zmc m_X8_isEmpty) 9 = .ok (.goto 4, 3) := by decide +kernel
theorem d_X8_isEmpty_12 : decode (zmc m_X8_isEmpty) 12 = .ok (.iconst 0, 1) := by decide +kernel
theorem d_X8_isEmpty_13 : decode (zmc m_X8_isEmpty) 13 = .ok (.ireturn, 1) := by decide +kernel
theorem d_X8_isRow_0 : decode (zmc m_X8_isRow) 0 = .ok (.aload_n 0, 1) := by decide +kernel
theorem d_X8_isRow_1 : decode (zmc m_X8_isRow) 1 = .ok (.getfield 15, 3) := by decide +kernel
theorem d_X8_isRow_4 : decode (zmc m_X8_isRow) 4 = .ok (.ifCond .lt 15, 3) := by decide +kernel
theorem d_X8_isRow_7 : decode (zmc m_X8_isRow) 7 = .ok (.aload_n 0, 1) := by decide +kernel
theorem d_X8_isRow_8 : decode (zmc m_X8_isRow) 8 = .ok (.getfield 15, 3) := by decide +kernel
theorem d_X8_isRow_11 : decode (zmc m_X8_isRow) 11 = .ok (.iconst 4, 1) := by decide +kernel
theorem d_X8_isRow_12 : decode (zmc m_X8_isRow) 12 = .ok (.if_icmp .gt 7, 3) := by decide +kernel
theorem d_X8_isRow_15 : decode (zmc m_X8_isRow) 15 = .ok (.iconst 1, 1) := by decide +kernel
theorem d_X8_isRow_16 : decode (zmc m_X8_isRow) 16 = .ok (.goto 4, 3) := by decide +kernel
theorem d_X8_isRow_19 : decode (zmc m_X8_isRow) 19 = .ok (.iconst 0, 1) := by decide +kernel
theorem d_X8_isRow_20 : decode (zmc m_X8_isRow) 20 = .ok (.ireturn, 1) := by decide +kernel
theorem d_X8_lowest_0 : decode (zmc m_X8_lowest) 0 = .ok (.aload_n 0, 1) := by decide +kernel
theorem d_X8_lowest_1 : decode (zmc m_X8_lowest) 1 = .ok (.getfield 15, 3) := by decide +kernel
theorem d_X8_lowest_4 : decode (zmc m_X8_lowest) 4 = .ok (.tableswitch 62 0 4 #[36, 41, 46, 62, 50], 36) := by decide +kernel
theorem d_X8_lowest_40 : decode (zmc m_X8_lowest) 40 = .ok (.lload_n 1, 1) := by decide +kernel
theorem d_X8_lowest_41 : decode (zmc m_X8_lowest) 41 = .ok (.l2i, 1) := by decide +kernel
theorem d_X8_lowest_42 : decode (zmc m_X8_lowest) 42 = .ok (.i2b, 1) := by decide +kernel
theorem d_X8_lowest_43 : decode (zmc m_X8_lowest) 43 = .ok (.i2l, 1) := by decide +kernel
theorem d_X8_lowest_44 : decode (zmc m_X8_lowest) 44 = .ok (.lreturn, 1) := by decide +kernel
theorem d_X8_lowest_45 : decode (zmc m_X8_lowest) 45 = .ok (.lload_n 1, 1) := by decide +kernel
theorem d_X8_lowest_46 : decode (zmc m_X8_lowest) 46 = .ok (.l2i, 1) := by decide +kernel
theorem d_X8_lowest_47 : decode (zmc m_X8_lowest) 47 = .ok (.i2s, 1) := by decide +kernel
theorem d_X8_lowest_48 : decode (zmc m_X8_lowest) 48 = .ok (.i2l, 1) := by decide +kernel
theorem d_X8_lowest_49 : decode (zmc m_X8_lowest) 49 = .ok (.lreturn, 1) := by decide +kernel
theorem d_X8_lowest_50 : decode (zmc m_X8_lowest) 50 = .ok (.lload_n 1, 1) := by decide +kernel
theorem d_X8_lowest_51 : decode (zmc m_X8_lowest) 51 = .ok (.l2i, 1) := by decide +kernel
theorem d_X8_lowest_52 : decode (zmc m_X8_lowest) 52 = .ok (.i2l, 1) := by decide +kernel
theorem d_X8_lowest_53 : decode (zmc m_X8_lowest) 53 = .ok (.lreturn, 1) := by decide +kernel
theorem d_X8_lowest_54 : decode (zmc m_X8_lowest) 54 = .ok (.lload_n 1, 1) := by decide +kernel
theorem d_X8_lowest_55 : decode (zmc m_X8_lowest) 55 = .ok (.lconst 0, 1) := by decide +kernel
theorem d_X8_lowest_56 : decode (zmc m_X8_lowest) 56 = .ok (.lcmp, 1) := by decide +kernel
theorem d_X8_lowest_57 : decode (zmc m_X8_lowest) 57 = .ok (.ifCond .eq 7, 3) := by decide +kernel
theorem d_X8_lowest_60 : decode (zmc m_X8_lowest) 60 = .ok (.lconst 1, 1) := by decide +kernel
theorem d_X8_lowest_61 : decode (zmc m_X8_lowest) 61 = .ok (.goto 4, 3) := by decide +kernel
theorem d_X8_lowest_64 : decode (zmc m_X8_lowest) 64 = .ok (.lconst 0, 1) := by decide +kernel
theorem d_X8_lowest_65 : decode (zmc m_X8_lowest) 65 = .ok (.lreturn, 1) := by decide +kernel
theorem d_X8_lowest_66 : decode (zmc m_X8_lowest) 66 = .ok (.lload_n 1, 1) := by decide +kernel
theorem d_X8_lowest_67 : decode (zmc m_X8_lowest) 67 = .ok (.lreturn, 1) := by decide +kernel
theorem d_X8_refusal_0 : decode (zmc m_X8_refusal) 0 = .ok (.aload_n 0, 1) := by decide +kernel
theorem d_X8_refusal_1 : decode (zmc m_X8_refusal) 1 = .ok (.invokevirtual 19, 3) := by decide +kernel
theorem d_X8_refusal_4 : decode (zmc m_X8_refusal) 4 = .ok (.ifCond .eq 8, 3) := by decide +kernel
theorem d_X8_refusal_7 : decode (zmc m_X8_refusal) 7 = .ok (.bipush (-11), 2) := by decide +kernel
theorem d_X8_refusal_9 : decode (zmc m_X8_refusal) 9 = .ok (.goto 5, 3) := by decide +kernel
theorem d_X8_refusal_12 : decode (zmc m_X8_refusal) 12 = .ok (.bipush (-12), 2) := by decide +kernel
theorem d_X8_refusal_14 : decode (zmc m_X8_refusal) 14 = .ok (.ireturn, 1) := by decide +kernel
theorem d_X8_told_0 : decode (zmc m_X8_told) 0 = .ok (.aload_n 0, 1) := by decide +kernel
theorem d_X8_told_1 : decode (zmc m_X8_told) 1 = .ok (.iload_n 1, 1) := by decide +kernel
theorem d_X8_told_2 : decode (zmc m_X8_told) 2 = .ok (.invokevirtual 38, 3) := by decide +kernel
theorem d_X8_told_5 : decode (zmc m_X8_told) 5 = .ok (.ifCond .eq 13, 3) := by decide +kernel
theorem d_X8_told_8 : decode (zmc m_X8_told) 8 = .ok (.aload_n 0, 1) := by decide +kernel
theorem d_X8_told_9 : decode (zmc m_X8_told) 9 = .ok (.getfield 11, 3) := by decide +kernel
theorem d_X8_told_12 : decode (zmc m_X8_told) 12 = .ok (.iload_n 1, 1) := by decide +kernel
theorem d_X8_told_13 : decode (zmc m_X8_told) 13 = .ok (.laload, 1) := by decide +kernel
theorem d_X8_told_14 : decode (zmc m_X8_told) 14 = .ok (.l2i, 1) := by decide +kernel
theorem d_X8_told_15 : decode (zmc m_X8_told) 15 = .ok (.goto 4, 3) := by decide +kernel
theorem d_X8_told_18 : decode (zmc m_X8_told) 18 = .ok (.iconst (-1), 1) := by decide +kernel
theorem d_X8_told_19 : decode (zmc m_X8_told) 19 = .ok (.ireturn, 1) := by decide +kernel
theorem d_X8_write_0 : decode (zmc m_X8_write) 0 = .ok (.aload_n 0, 1) := by decide +kernel
theorem d_X8_write_1 : decode (zmc m_X8_write) 1 = .ok (.iload_n 1, 1) := by decide +kernel
theorem d_X8_write_2 : decode (zmc m_X8_write) 2 = .ok (.invokevirtual 38, 3) := by decide +kernel
theorem d_X8_write_5 : decode (zmc m_X8_write) 5 = .ok (.ifCond .eq 14, 3) := by decide +kernel
theorem d_X8_write_8 : decode (zmc m_X8_write) 8 = .ok (.aload_n 0, 1) := by decide +kernel
theorem d_X8_write_9 : decode (zmc m_X8_write) 9 = .ok (.getfield 11, 3) := by decide +kernel
theorem d_X8_write_12 : decode (zmc m_X8_write) 12 = .ok (.iload_n 1, 1) := by decide +kernel
theorem d_X8_write_13 : decode (zmc m_X8_write) 13 = .ok (.aload_n 0, 1) := by decide +kernel
theorem d_X8_write_14 : decode (zmc m_X8_write) 14 = .ok (.lload_n 2, 1) := by decide +kernel
theorem d_X8_write_15 : decode (zmc m_X8_write) 15 = .ok (.invokevirtual 42, 3) := by decide +kernel
theorem d_X8_write_18 : decode (zmc m_X8_write) 18 = .ok (.lastore, 1) := by decide +kernel
theorem d_X8_write_19 : decode (zmc m_X8_write) 19 = .ok (.return_, 1) := by decide +kernel
/-! A SHELF -/
def zShf (h : Nat) : Prop := zsh h = (8, 4) ∧ zsh (h + 1) = (21, 60) ∧ h + 1 < 100 ∧ ∀ fs, zR fs h 0 = some (h + 1)
theorem zshf {k : Nat} (hk : k < 6) : zShf (42 + 2 * k) := by
  match k, hk with
  | 0, _ => exact ⟨rfl, rfl, by decide, fun _ => rfl⟩
  | 1, _ => exact ⟨rfl, rfl, by decide, fun _ => rfl⟩
  | 2, _ => exact ⟨rfl, rfl, by decide, fun _ => rfl⟩
  | 3, _ => exact ⟨rfl, rfl, by decide, fun _ => rfl⟩
  | 4, _ => exact ⟨rfl, rfl, by decide, fun _ => rfl⟩
  | 5, _ => exact ⟨rfl, rfl, by decide, fun _ => rfl⟩
def zTold (I : Nat → Nat → Int32) (L : Nat → Nat → Int64) (h : Nat) (i : Int32) : Int32 := if 0 ≤ i ∧ i < I h 2 then (L (h + 1) i.toNatClampNeg).toInt32 else -1
def zZero (f : Nat → Int64) (k : Nat) : Nat → Int64 := zfor (fun k f => zup f k 0) 60 k f
theorem zZero_at (f : Nat → Int64) (j : Nat) : zZero f 0 j = if j < 60 then 0 else f j := by
  have key : ∀ k, k ≤ 60 → ∀ f : Nat → Int64, zZero f k j = if k ≤ j ∧ j < 60 then 0 else f j := by
    refine zloop 60 (fun k hk ih f => ?_)
    unfold zZero at ih ⊢
    rcases Nat.eq_or_lt_of_le hk with e | hlt
    · rw [zfor_end (by omega), if_neg (by omega)]
    · rw [zfor_step hlt, ih hlt]
      by_cases e : j = k
      · subst e
        rw [if_neg (by omega), if_pos ⟨Nat.le_refl _, hlt⟩, zup_eq]
      · by_cases h2 : k + 1 ≤ j ∧ j < 60
        · rw [if_pos h2, if_pos (by omega)]
        · rw [if_neg h2, if_neg (by omega), zup_ne e]
  rw [key 0 (Nat.zero_le _) f]
  simp
def zLow (s : Int32) (v : Int64) : Int64 := if s = 0 then v.toInt32.toInt8.toInt32.toInt64 else if s = 1 then v.toInt32.toInt16.toInt32.toInt64 else if s = 2 then v.toInt32.toInt64 else if s = 4 then (if lg_cmp v 0 = 0 then 0 else 1) else v
def zHoldI (I : Nat → Nat → Int32) (h : Nat) (s n : Int32) : Nat → Nat → Int32 := zup I h (zup (zup (I h) 1 s) 2 n)
section S11
variable {g : zG} {l : Launch} {d : Nat} {I : Nat → Nat → Int32} {L : Nat → Nat → Int64} {fs : Nat × Nat × Option Nat} {h : Nat}
theorem sp_X8_isEmpty (hd : 1 ≤ d) (hh : zShf h) : zPure g l d m_X8_isEmpty [.ref h] I L fs (.int (bi (I h 1 = -1))) := by
  refine zSp_of (lv := [(0, .ref h)]) k_X8_isEmpty rfl (Nat.le_of_ble_eq_true rfl) ?_
  refine zAloadN d_X8_isEmpty_0 rfl rfl (q := 1) rfl ?_
  refine zGetI d_X8_isEmpty_1 ff_X8_15 hh.1 (Nat.lt_of_succ_lt hh.2.2.1) (q := 4) rfl ?_
  refine zIconst d_X8_isEmpty_4 (v := -1) ic_m1 (q := 5) rfl ?_
  refine zIcmp_ne d_X8_isEmpty_5 (tgt := 12) (q := 8) (by decide) rfl (fun h5 => ?_) (fun h5 => ?_)
  · refine zIconst d_X8_isEmpty_12 (v := 0) ic_0 (q := 13) rfl ?_
    refine zIret d_X8_isEmpty_13 rfl rfl rfl ?_
    exact zPi (by unfold bi; simp_all)
  · refine zIconst d_X8_isEmpty_8 (v := 1) ic_1 (q := 9) rfl ?_
    refine zGoto d_X8_isEmpty_9 (q := 13) (by decide) ?_
    refine zIret d_X8_isEmpty_13 rfl rfl rfl ?_
    exact zPi (by unfold bi; simp_all)
theorem sp_X8_isBody (hd : 1 ≤ d) (hh : zShf h) : zPure g l d m_X8_isBody [.ref h] I L fs (.int (bi (I h 1 = 5))) := by
  refine zSp_of (lv := [(0, .ref h)]) k_X8_isBody rfl (Nat.le_of_ble_eq_true rfl) ?_
  refine zAloadN d_X8_isBody_0 rfl rfl (q := 1) rfl ?_
  refine zGetI d_X8_isBody_1 ff_X8_15 hh.1 (Nat.lt_of_succ_lt hh.2.2.1) (q := 4) rfl ?_
  refine zIconst d_X8_isBody_4 (v := 5) ic_5 (q := 5) rfl ?_
  refine zIcmp_ne d_X8_isBody_5 (tgt := 12) (q := 8) (by decide) rfl (fun h5 => ?_) (fun h5 => ?_)
  · refine zIconst d_X8_isBody_12 (v := 0) ic_0 (q := 13) rfl ?_
    refine zIret d_X8_isBody_13 rfl rfl rfl ?_
    exact zPi (by unfold bi; simp_all)
  · refine zIconst d_X8_isBody_8 (v := 1) ic_1 (q := 9) rfl ?_
    refine zGoto d_X8_isBody_9 (q := 13) (by decide) ?_
    refine zIret d_X8_isBody_13 rfl rfl rfl ?_
    exact zPi (by unfold bi; simp_all)
theorem sp_X8_isRow (hd : 1 ≤ d) (hh : zShf h) : zPure g l d m_X8_isRow [.ref h] I L fs (.int (bi (0 ≤ I h 1 ∧ I h 1 ≤ 4))) := by
  refine zSp_of (lv := [(0, .ref h)]) k_X8_isRow rfl (Nat.le_of_ble_eq_true rfl) ?_
  refine zAloadN d_X8_isRow_0 rfl rfl (q := 1) rfl ?_
  refine zGetI d_X8_isRow_1 ff_X8_15 hh.1 (Nat.lt_of_succ_lt hh.2.2.1) (q := 4) rfl ?_
  refine zIf_lt d_X8_isRow_4 (tgt := 19) (q := 7) (by decide) rfl (fun h4 => ?_) (fun h4 => ?_)
  · refine zIconst d_X8_isRow_19 (v := 0) ic_0 (q := 20) rfl ?_
    refine zIret d_X8_isRow_20 rfl rfl rfl ?_
    exact zPi (by unfold bi; grind)
  · refine zAloadN d_X8_isRow_7 rfl rfl (q := 8) rfl ?_
    refine zGetI d_X8_isRow_8 ff_X8_15 hh.1 (Nat.lt_of_succ_lt hh.2.2.1) (q := 11) rfl ?_
    refine zIconst d_X8_isRow_11 (v := 4) ic_4 (q := 12) rfl ?_
    refine zIcmp_gt d_X8_isRow_12 (tgt := 19) (q := 15) (by decide) rfl (fun h12 => ?_) (fun h12 => ?_)
    · refine zIconst d_X8_isRow_19 (v := 0) ic_0 (q := 20) rfl ?_
      refine zIret d_X8_isRow_20 rfl rfl rfl ?_
      exact zPi (by unfold bi; grind)
    · refine zIconst d_X8_isRow_15 (v := 1) ic_1 (q := 16) rfl ?_
      refine zGoto d_X8_isRow_16 (q := 20) (by decide) ?_
      refine zIret d_X8_isRow_20 rfl rfl rfl ?_
      exact zPi (by unfold bi; grind)
theorem sp_X8_isBytes (hd : 1 ≤ d) (hh : zShf h) : zPure g l d m_X8_isBytes [.ref h] I L fs (.int (bi (I h 1 = 0))) := by
  refine zSp_of (lv := [(0, .ref h)]) k_X8_isBytes rfl (Nat.le_of_ble_eq_true rfl) ?_
  refine zAloadN d_X8_isBytes_0 rfl rfl (q := 1) rfl ?_
  refine zGetI d_X8_isBytes_1 ff_X8_15 hh.1 (Nat.lt_of_succ_lt hh.2.2.1) (q := 4) rfl ?_
  refine zIf_ne d_X8_isBytes_4 (tgt := 11) (q := 7) (by decide) rfl (fun h4 => ?_) (fun h4 => ?_)
  · refine zIconst d_X8_isBytes_11 (v := 0) ic_0 (q := 12) rfl ?_
    refine zIret d_X8_isBytes_12 rfl rfl rfl ?_
    exact zPi (by unfold bi; simp_all)
  · refine zIconst d_X8_isBytes_7 (v := 1) ic_1 (q := 8) rfl ?_
    refine zGoto d_X8_isBytes_8 (q := 12) (by decide) ?_
    refine zIret d_X8_isBytes_12 rfl rfl rfl ?_
    exact zPi (by unfold bi; simp_all)
theorem sp_X8_refusal (hd : 2 ≤ d) (hh : zShf h) : zPure g l d m_X8_refusal [.ref h] I L fs (.int (if I h 1 = -1 then -11 else -12)) := by
  refine zSp_of (lv := [(0, .ref h)]) k_X8_refusal rfl (Nat.le_of_ble_eq_true rfl) ?_
  refine zAloadN d_X8_refusal_0 rfl rfl (q := 1) rfl ?_
  refine zCallVP d_X8_refusal_1 ml_X8_19 k_X8_isEmpty ki_X8_isEmpty ks_X8_isEmpty (sp_X8_isEmpty (d := d - 1) (by omega) hh) rfl rfl hh.1 (by decide) rfl (Nat.lt_of_succ_lt hh.2.2.1) (Nat.le_of_ble_eq_true rfl) (by decide) (by omega) zns100 (q := 4) rfl ?_
  refine zIf_eq d_X8_refusal_4 (tgt := 12) (q := 7) (by decide) rfl (fun h4 => ?_) (fun h4 => ?_)
  · refine zBipush d_X8_refusal_12 (v := -12) bc_m12 (q := 14) rfl ?_
    refine zIret d_X8_refusal_14 rfl rfl rfl ?_
    exact zPi (by first | rw [if_pos (bi_n0.mp h4)] | rw [if_neg (bi_0.mp h4)])
  · refine zBipush d_X8_refusal_7 (v := -11) bc_m11 (q := 9) rfl ?_
    refine zGoto d_X8_refusal_9 (q := 14) (by decide) ?_
    refine zIret d_X8_refusal_14 rfl rfl rfl ?_
    exact zPi (by first | rw [if_pos (bi_n0.mp h4)] | rw [if_neg (bi_0.mp h4)])
theorem sp_X8_holdNothing (hd : 1 ≤ d) (hh : zShf h) : zSp g l d 100 m_X8_holdNothing [.ref h] (zU I L fs) (zV (fun w => w = zU (zup I h (zup (I h) 1 (-1))) L fs)) := by
  refine zSp_of (lv := [(0, .ref h)]) k_X8_holdNothing rfl (Nat.le_of_ble_eq_true rfl) ?_
  refine zAloadN d_X8_holdNothing_0 rfl rfl (q := 1) rfl ?_
  refine zIconst d_X8_holdNothing_1 (v := -1) ic_m1 (q := 2) rfl ?_
  refine zPutI d_X8_holdNothing_2 ff_X8_15 rfl rfl rfl hh.1 (Nat.lt_of_succ_lt hh.2.2.1) (q := 5) rfl ?_
  refine zVret d_X8_holdNothing_5 rfl rfl ?_
  exact ⟨rfl, rfl⟩
theorem sp_X8_holdBody (hd : 1 ≤ d) (hh : zShf h) {b : Int32} : zSp g l d 100 m_X8_holdBody [.ref h, .int b] (zU I L fs) (zV (fun w => w = zU (zup I h (zup (zup (I h) 1 5) 3 b)) L fs)) := by
  refine zSp_of (lv := [(0, .ref h), (1, .int b)]) k_X8_holdBody rfl (Nat.le_of_ble_eq_true rfl) ?_
  refine zAloadN d_X8_holdBody_0 rfl rfl (q := 1) rfl ?_
  refine zIconst d_X8_holdBody_1 (v := 5) ic_5 (q := 2) rfl ?_
  refine zPutI d_X8_holdBody_2 ff_X8_15 rfl rfl rfl hh.1 (Nat.lt_of_succ_lt hh.2.2.1) (q := 5) rfl ?_
  refine zAloadN d_X8_holdBody_5 rfl rfl (q := 6) rfl ?_
  refine zIloadN d_X8_holdBody_6 rfl rfl (q := 7) rfl ?_
  refine zPutI d_X8_holdBody_7 ff_X8_23 rfl rfl rfl hh.1 (Nat.lt_of_succ_lt hh.2.2.1) (q := 10) rfl ?_
  refine zVret d_X8_holdBody_10 rfl rfl ?_
  exact ⟨rfl, by rw [zup_zup, zup_eq]⟩
theorem sp_X8_holdRow (hd : 1 ≤ d) (hh : zShf h) {s : Int32} {n : Nat} (hn : n ≤ 60) : zSp g l d 100 m_X8_holdRow [.ref h, .int s, .int (nI n)] (zU I L fs) (zV (fun w => w = zU (zHoldI I h s (nI n)) (zup L (h + 1) (zZero (L (h + 1)) 0)) fs)) := by
  have loop : ∀ k, k ≤ 60 → ∀ f, zZero f k = zZero (L (h + 1)) 0 → zA g l d m_X8_holdRow (zHoldI I h s (nI n)) (zup L (h + 1) f) fs 21 [(3, .int (nI k)), (0, .ref h)] (zV (fun w => w = zU (zHoldI I h s (nI n)) (zup L (h + 1) (zZero (L (h + 1)) 0)) fs)) := by
    refine zloop 60 (fun k hk ih f hx => ?_)
    refine zIloadN d_X8_holdRow_21 rfl rfl (q := 22) rfl ?_
    refine zBipush d_X8_holdRow_22 (v := 60) bc_60 (q := 24) rfl ?_
    refine zIcmp_ge d_X8_holdRow_24 (tgt := 40) (q := 27) (by decide) rfl (fun h24 => ?_) (fun h24 => ?_)
    · have e := nle (b := 60) h24
      refine zVret d_X8_holdRow_40 rfl rfl ?_
      exact ⟨rfl, by rw [← hx]; unfold zZero; rw [zfor_end e]⟩
    · have hlt := nnle (b := 60) h24
      refine zAloadN d_X8_holdRow_27 rfl rfl (q := 28) rfl ?_
      refine zGetR d_X8_holdRow_28 ff_X8_11 hh.1 (Nat.lt_of_succ_lt hh.2.2.1) (hh.2.2.2 _) (q := 31) rfl ?_
      refine zIloadN d_X8_holdRow_31 rfl rfl (q := 32) rfl ?_
      refine zLconst d_X8_holdRow_32 (v := 0) rfl (q := 33) rfl ?_
      refine zLast d_X8_holdRow_33 hh.2.1 hh.2.2.1 rfl (by omega) (q := 34) rfl ?_
      rw [zup_zup, zup_eq]
      refine zIinc d_X8_holdRow_34 rfl (zinc _) (by decide) rfl (q := 37) rfl ?_
      refine zGoto d_X8_holdRow_37 (q := 21) (by decide) ?_
      refine zSub [0, 1] rfl ?_
      exact ih hlt _ (by rw [← hx]; unfold zZero; rw [zfor_step hlt])
  have e0 : zup L (h + 1) (L (h + 1)) = L := by funext a; unfold zup; split <;> simp_all
  have hmin : (if nI n < 60 then nI n else 60) = nI n := by
    by_cases q : nI n < 60
    · rw [if_pos q]
    · rw [if_neg q]
      have := nnlt (b := 60) q
      rw [show n = 60 by omega]; rfl
  have hmax : (if 0 < nI n then nI n else 0) = nI n := by
    by_cases q : 0 < nI n
    · rw [if_pos q]
    · rw [if_neg q]
      have := nnlt (a := 0) q
      rw [show n = 0 by omega]; rfl
  refine zSp_of (lv := [(0, .ref h), (1, .int s), (2, .int (nI n))]) k_X8_holdRow rfl (Nat.le_of_ble_eq_true rfl) ?_
  refine zAloadN d_X8_holdRow_0 rfl rfl (q := 1) rfl ?_
  refine zIloadN d_X8_holdRow_1 rfl rfl (q := 2) rfl ?_
  refine zPutI d_X8_holdRow_2 ff_X8_15 rfl rfl rfl hh.1 (Nat.lt_of_succ_lt hh.2.2.1) (q := 5) rfl ?_
  refine zAloadN d_X8_holdRow_5 rfl rfl (q := 6) rfl ?_
  refine zIconst d_X8_holdRow_6 (v := 0) ic_0 (q := 7) rfl ?_
  refine zBipush d_X8_holdRow_7 (v := 60) bc_60 (q := 9) rfl ?_
  refine zIloadN d_X8_holdRow_9 rfl rfl (q := 10) rfl ?_
  refine zMin d_X8_holdRow_10 ml_X8_26 (by omega) (Nat.le_of_ble_eq_true rfl) ⟨Nat.le_refl _, Nat.le_refl _⟩ (q := 13) rfl ?_
  refine zMax d_X8_holdRow_13 ml_X8_32 (by omega) (Nat.le_of_ble_eq_true rfl) ⟨Nat.le_refl _, Nat.le_refl _⟩ (q := 16) rfl ?_
  rw [hmin, hmax]
  refine zPutI d_X8_holdRow_16 ff_X8_35 rfl rfl rfl hh.1 (Nat.lt_of_succ_lt hh.2.2.1) (q := 19) rfl ?_
  rw [zup_zup, zup_eq]
  refine zIconst d_X8_holdRow_19 (v := 0) ic_0 (q := 20) rfl ?_
  refine zIstoreN d_X8_holdRow_20 rfl (by decide) rfl (q := 21) rfl ?_
  refine zSub [0, 1] rfl ?_
  exact (e0 ▸ loop 0 (Nat.zero_le _) (L (h + 1)) rfl : zA g l d m_X8_holdRow (zHoldI I h s (nI n)) L fs 21 [(3, .int (nI 0)), (0, .ref h)] _)
theorem sp_X8_hasPlace (hd : 1 ≤ d) (hh : zShf h) {i : Int32} : zPure g l d m_X8_hasPlace [.ref h, .int i] I L fs (.int (bi (0 ≤ i ∧ i < I h 2))) := by
  refine zSp_of (lv := [(0, .ref h), (1, .int i)]) k_X8_hasPlace rfl (Nat.le_of_ble_eq_true rfl) ?_
  refine zIloadN d_X8_hasPlace_0 rfl rfl (q := 1) rfl ?_
  refine zIf_lt d_X8_hasPlace_1 (tgt := 16) (q := 4) (by decide) rfl (fun h1 => ?_) (fun h1 => ?_)
  · refine zIconst d_X8_hasPlace_16 (v := 0) ic_0 (q := 17) rfl ?_
    refine zIret d_X8_hasPlace_17 rfl rfl rfl ?_
    exact zPi (by unfold bi; grind)
  · refine zIloadN d_X8_hasPlace_4 rfl rfl (q := 5) rfl ?_
    refine zAloadN d_X8_hasPlace_5 rfl rfl (q := 6) rfl ?_
    refine zGetI d_X8_hasPlace_6 ff_X8_35 hh.1 (Nat.lt_of_succ_lt hh.2.2.1) (q := 9) rfl ?_
    refine zIcmp_ge d_X8_hasPlace_9 (tgt := 16) (q := 12) (by decide) rfl (fun h9 => ?_) (fun h9 => ?_)
    · refine zIconst d_X8_hasPlace_16 (v := 0) ic_0 (q := 17) rfl ?_
      refine zIret d_X8_hasPlace_17 rfl rfl rfl ?_
      exact zPi (by unfold bi; grind)
    · refine zIconst d_X8_hasPlace_12 (v := 1) ic_1 (q := 13) rfl ?_
      refine zGoto d_X8_hasPlace_13 (q := 17) (by decide) ?_
      refine zIret d_X8_hasPlace_17 rfl rfl rfl ?_
      exact zPi (by unfold bi; grind)
theorem sp_X8_hasRun (hd : 1 ≤ d) (hh : zShf h) {i n : Int32} : zPure g l d m_X8_hasRun [.ref h, .int i, .int n] I L fs (.int (bi (0 ≤ i ∧ i ≤ I h 2 ∧ n ≤ I h 2 - i))) := by
  refine zSp_of (lv := [(0, .ref h), (1, .int i), (2, .int n)]) k_X8_hasRun rfl (Nat.le_of_ble_eq_true rfl) ?_
  refine zIloadN d_X8_hasRun_0 rfl rfl (q := 1) rfl ?_
  refine zIf_lt d_X8_hasRun_1 (tgt := 26) (q := 4) (by decide) rfl (fun h1 => ?_) (fun h1 => ?_)
  · refine zIconst d_X8_hasRun_26 (v := 0) ic_0 (q := 27) rfl ?_
    refine zIret d_X8_hasRun_27 rfl rfl rfl ?_
    exact zPi (by unfold bi; grind)
  · refine zIloadN d_X8_hasRun_4 rfl rfl (q := 5) rfl ?_
    refine zAloadN d_X8_hasRun_5 rfl rfl (q := 6) rfl ?_
    refine zGetI d_X8_hasRun_6 ff_X8_35 hh.1 (Nat.lt_of_succ_lt hh.2.2.1) (q := 9) rfl ?_
    refine zIcmp_gt d_X8_hasRun_9 (tgt := 26) (q := 12) (by decide) rfl (fun h9 => ?_) (fun h9 => ?_)
    · refine zIconst d_X8_hasRun_26 (v := 0) ic_0 (q := 27) rfl ?_
      refine zIret d_X8_hasRun_27 rfl rfl rfl ?_
      exact zPi (by unfold bi; grind)
    · refine zIloadN d_X8_hasRun_12 rfl rfl (q := 13) rfl ?_
      refine zAloadN d_X8_hasRun_13 rfl rfl (q := 14) rfl ?_
      refine zGetI d_X8_hasRun_14 ff_X8_35 hh.1 (Nat.lt_of_succ_lt hh.2.2.1) (q := 17) rfl ?_
      refine zIloadN d_X8_hasRun_17 rfl rfl (q := 18) rfl ?_
      refine zIsub d_X8_hasRun_18 (q := 19) rfl ?_
      refine zIcmp_gt d_X8_hasRun_19 (tgt := 26) (q := 22) (by decide) rfl (fun h19 => ?_) (fun h19 => ?_)
      · refine zIconst d_X8_hasRun_26 (v := 0) ic_0 (q := 27) rfl ?_
        refine zIret d_X8_hasRun_27 rfl rfl rfl ?_
        exact zPi (by unfold bi; grind)
      · refine zIconst d_X8_hasRun_22 (v := 1) ic_1 (q := 23) rfl ?_
        refine zGoto d_X8_hasRun_23 (q := 27) (by decide) ?_
        refine zIret d_X8_hasRun_27 rfl rfl rfl ?_
        exact zPi (by unfold bi; grind)
theorem sp_X8_told (hd : 2 ≤ d) (hh : zShf h) {i : Int32} {n : Nat} (hn : I h 2 = nI n) (hn2 : n ≤ 60) : zPure g l d m_X8_told [.ref h, .int i] I L fs (.int (zTold I L h i)) := by
  refine zSp_of (lv := [(0, .ref h), (1, .int i)]) k_X8_told rfl (Nat.le_of_ble_eq_true rfl) ?_
  refine zAloadN d_X8_told_0 rfl rfl (q := 1) rfl ?_
  refine zIloadN d_X8_told_1 rfl rfl (q := 2) rfl ?_
  refine zCallVP d_X8_told_2 ml_X8_38 k_X8_hasPlace ki_X8_hasPlace ks_X8_hasPlace (sp_X8_hasPlace (d := d - 1) (by omega) hh) rfl rfl hh.1 (by decide) rfl (Nat.lt_of_succ_lt hh.2.2.1) (Nat.le_of_ble_eq_true rfl) (by decide) (by omega) zns100 (q := 5) rfl ?_
  refine zIf_eq d_X8_told_5 (tgt := 18) (q := 8) (by decide) rfl (fun h5 => ?_) (fun h5 => ?_)
  · refine zIconst d_X8_told_18 (v := -1) ic_m1 (q := 19) rfl ?_
    refine zIret d_X8_told_19 rfl rfl rfl ?_
    exact zPi (by unfold zTold; first | (rw [if_pos hp, zcl_n (by omega)]) | (rw [if_neg (bi_0.mp h5)]))
  · have hp := bi_n0.mp h5
    obtain ⟨j, hj, rfl⟩ := zn1 (x := i) (n := n) (by omega) hp.1 (hn ▸ hp.2)
    refine zAloadN d_X8_told_8 rfl rfl (q := 9) rfl ?_
    refine zGetR d_X8_told_9 ff_X8_11 hh.1 (Nat.lt_of_succ_lt hh.2.2.1) (hh.2.2.2 _) (q := 12) rfl ?_
    refine zIloadN d_X8_told_12 rfl rfl (q := 13) rfl ?_
    refine zLald d_X8_told_13 hh.2.1 hh.2.2.1 rfl (by omega) (q := 14) rfl ?_
    refine zL2i d_X8_told_14 (q := 15) rfl ?_
    refine zGoto d_X8_told_15 (q := 19) (by decide) ?_
    refine zIret d_X8_told_19 rfl rfl rfl ?_
    exact zPi (by unfold zTold; first | (rw [if_pos hp, zcl_n (by omega)]) | (rw [if_neg (bi_0.mp h5)]))
theorem sp_X8_lowest (hd : 1 ≤ d) (hh : zShf h) {v : Int64} : zPure g l d m_X8_lowest [.ref h, .long v] I L fs (.long (zLow (I h 1) v)) := by
  refine zSp_of (lv := [(0, .ref h), (1, .long v)]) k_X8_lowest rfl (Nat.le_of_ble_eq_true rfl) ?_
  refine zAloadN d_X8_lowest_0 rfl rfl (q := 1) rfl ?_
  refine zGetI d_X8_lowest_1 ff_X8_15 hh.1 (Nat.lt_of_succ_lt hh.2.2.1) (q := 4) rfl ?_
  rcases Decidable.em (I h 1 = (0 : Int32)) with s4_0 | s4_0
  · refine zTabAt s4_0 d_X8_lowest_4 (by decide) (by decide) (off := 36) (by decide) (q := 40) (by decide) ?_
    refine zLloadN d_X8_lowest_40 rfl rfl (q := 41) rfl ?_
    refine zL2i d_X8_lowest_41 (q := 42) rfl ?_
    refine zI2b d_X8_lowest_42 (q := 43) rfl ?_
    refine zI2l d_X8_lowest_43 (q := 44) rfl ?_
    refine zLret d_X8_lowest_44 rfl rfl ?_
    exact zPl (by unfold zLow; simp_all)
  rcases Decidable.em (I h 1 = (1 : Int32)) with s4_1 | s4_1
  · refine zTabAt s4_1 d_X8_lowest_4 (by decide) (by decide) (off := 41) (by decide) (q := 45) (by decide) ?_
    refine zLloadN d_X8_lowest_45 rfl rfl (q := 46) rfl ?_
    refine zL2i d_X8_lowest_46 (q := 47) rfl ?_
    refine zI2s d_X8_lowest_47 (q := 48) rfl ?_
    refine zI2l d_X8_lowest_48 (q := 49) rfl ?_
    refine zLret d_X8_lowest_49 rfl rfl ?_
    exact zPl (by unfold zLow; simp_all)
  rcases Decidable.em (I h 1 = (2 : Int32)) with s4_2 | s4_2
  · refine zTabAt s4_2 d_X8_lowest_4 (by decide) (by decide) (off := 46) (by decide) (q := 50) (by decide) ?_
    refine zLloadN d_X8_lowest_50 rfl rfl (q := 51) rfl ?_
    refine zL2i d_X8_lowest_51 (q := 52) rfl ?_
    refine zI2l d_X8_lowest_52 (q := 53) rfl ?_
    refine zLret d_X8_lowest_53 rfl rfl ?_
    exact zPl (by unfold zLow; simp_all)
  rcases Decidable.em (I h 1 = (3 : Int32)) with s4_3 | s4_3
  · refine zTabAt s4_3 d_X8_lowest_4 (by decide) (by decide) (off := 62) (by decide) (q := 66) (by decide) ?_
    refine zLloadN d_X8_lowest_66 rfl rfl (q := 67) rfl ?_
    refine zLret d_X8_lowest_67 rfl rfl ?_
    exact zPl (by unfold zLow; simp_all)
  rcases Decidable.em (I h 1 = (4 : Int32)) with s4_4 | s4_4
  · refine zTabAt s4_4 d_X8_lowest_4 (by decide) (by decide) (off := 50) (by decide) (q := 54) (by decide) ?_
    refine zLloadN d_X8_lowest_54 rfl rfl (q := 55) rfl ?_
    refine zLconst d_X8_lowest_55 (v := 0) rfl (q := 56) rfl ?_
    refine zLcmp d_X8_lowest_56 (q := 57) rfl ?_
    refine zIf_eq d_X8_lowest_57 (tgt := 64) (q := 60) (by decide) rfl (fun h57 => ?_) (fun h57 => ?_)
    · refine zLconst d_X8_lowest_64 (v := 0) rfl (q := 65) rfl ?_
      refine zLret d_X8_lowest_65 rfl rfl ?_
      exact zPl (by unfold zLow; simp_all)
    · refine zLconst d_X8_lowest_60 (v := 1) rfl (q := 61) rfl ?_
      refine zGoto d_X8_lowest_61 (q := 65) (by decide) ?_
      refine zLret d_X8_lowest_65 rfl rfl ?_
      exact zPl (by unfold zLow; simp_all)
  refine zTabOut d_X8_lowest_4 (by have := lv_neT s4_0 (a := 0) (by decide); have := lv_neT s4_1 (a := 1) (by decide); have := lv_neT s4_2 (a := 2) (by decide); have := lv_neT s4_3 (a := 3) (by decide); have := lv_neT s4_4 (a := 4) (by decide); omega) (q := 66) (by decide) ?_
  refine zLloadN d_X8_lowest_66 rfl rfl (q := 67) rfl ?_
  refine zLret d_X8_lowest_67 rfl rfl ?_
  exact zPl (by unfold zLow; simp_all)
theorem sp_X8_write (hd : 2 ≤ d) (hh : zShf h) {j n : Nat} (hj : j < n) (hn : I h 2 = nI n) (hn2 : n ≤ 60) {v : Int64} : zSp g l d 100 m_X8_write [.ref h, .int (nI j), .long v] (zU I L fs) (zV (fun w => w = zU I (zup L (h + 1) (zup (L (h + 1)) j (zLow (I h 1) v))) fs)) := by
  refine zSp_of (lv := [(0, .ref h), (1, .int (nI j)), (2, .long v)]) k_X8_write rfl (Nat.le_of_ble_eq_true rfl) ?_
  refine zAloadN d_X8_write_0 rfl rfl (q := 1) rfl ?_
  refine zIloadN d_X8_write_1 rfl rfl (q := 2) rfl ?_
  refine zCallVP d_X8_write_2 ml_X8_38 k_X8_hasPlace ki_X8_hasPlace ks_X8_hasPlace (sp_X8_hasPlace (d := d - 1) (by omega) hh) rfl rfl hh.1 (by decide) rfl (Nat.lt_of_succ_lt hh.2.2.1) (Nat.le_of_ble_eq_true rfl) (by decide) (by omega) zns100 (q := 5) rfl ?_
  refine zIf_eq d_X8_write_5 (tgt := 19) (q := 8) (by decide) rfl (fun h => absurd h (bi_n0.mpr ⟨zn_ge (by omega), by rw [hn]; exact (nI_ltI (by omega) (by omega)).mpr hj⟩)) (fun h5 => ?_)
  refine zAloadN d_X8_write_8 rfl rfl (q := 9) rfl ?_
  refine zGetR d_X8_write_9 ff_X8_11 hh.1 (Nat.lt_of_succ_lt hh.2.2.1) (hh.2.2.2 _) (q := 12) rfl ?_
  refine zIloadN d_X8_write_12 rfl rfl (q := 13) rfl ?_
  refine zAloadN d_X8_write_13 rfl rfl (q := 14) rfl ?_
  refine zLloadN d_X8_write_14 rfl rfl (q := 15) rfl ?_
  refine zCallVP d_X8_write_15 ml_X8_42 k_X8_lowest ki_X8_lowest ks_X8_lowest (sp_X8_lowest (d := d - 1) (by omega) hh) rfl rfl hh.1 (by decide) rfl (Nat.lt_of_succ_lt hh.2.2.1) (Nat.le_of_ble_eq_true rfl) (by decide) (by omega) zns100 (q := 18) rfl ?_
  refine zLast d_X8_write_18 hh.2.1 hh.2.2.1 rfl (by omega) (q := 19) rfl ?_
  refine zVret d_X8_write_19 rfl rfl ?_
  exact ⟨rfl, rfl⟩
end S11
end
section
theorem d_X1_add_0 : decode (zmc m_X1_add) 0 = .ok (.aload_n 0, 1) := by decide +kernel
theorem d_X1_add_1 : decode (zmc m_X1_add) 1 = .ok (.getfield 24, 3) := by decide +kernel
theorem d_X1_add_4 : decode (zmc m_X1_add) 4 = .ok (.bipush 40, 2) := by decide +kernel
theorem d_X1_add_6 : decode (zmc m_X1_add) 6 = .ok (.if_icmp .lt 7, 3) := by decide +kernel
theorem d_X1_add_9 : decode (zmc m_X1_add) 9 = .ok (.aload_n 0, 1) := by decide +kernel
theorem d_X1_add_10 : decode (zmc m_X1_add) 10 = .ok (.invokevirtual 28, 3) := by decide +kernel
theorem d_X1_add_13 : decode (zmc m_X1_add) 13 = .ok (.aload_n 0, 1) := by decide +kernel
theorem d_X1_add_14 : decode (zmc m_X1_add) 14 = .ok (.getfield 11, 3) := by decide +kernel
theorem d_X1_add_17 : decode (zmc m_X1_add) 17 = .ok (.aload_n 0, 1) := by decide +kernel
theorem d_X1_add_18 : decode (zmc m_X1_add) 18 = .ok (.getfield 24, 3) := by decide +kernel
theorem d_X1_add_21 : decode (zmc m_X1_add) 21 = .ok (.iload_n 1, 1) := by decide +kernel
theorem d_X1_add_22 : decode (zmc m_X1_add) 22 = .ok (.iastore, 1) := by decide +kernel
theorem d_X1_add_23 : decode (zmc m_X1_add) 23 = .ok (.aload_n 0, 1) := by decide +kernel
theorem d_X1_add_24 : decode (zmc m_X1_add) 24 = .ok (.getfield 15, 3) := by decide +kernel
theorem d_X1_add_27 : decode (zmc m_X1_add) 27 = .ok (.aload_n 0, 1) := by decide +kernel
theorem d_X1_add_28 : decode (zmc m_X1_add) 28 = .ok (.getfield 24, 3) := by decide +kernel
theorem d_X1_add_31 : decode (zmc m_X1_add) 31 = .ok (.iload_n 2, 1) := by decide +kernel
theorem d_X1_add_32 : decode (zmc m_X1_add) 32 = .ok (.iastore, 1) := by decide +kernel
theorem d_X1_add_33 : decode (zmc m_X1_add) 33 = .ok (.aload_n 0, 1) := by decide +kernel
theorem d_X1_add_34 : decode (zmc m_X1_add) 34 = .ok (.getfield 18, 3) := by decide +kernel
theorem d_X1_add_37 : decode (zmc m_X1_add) 37 = .ok (.aload_n 0, 1) := by decide +kernel
theorem d_X1_add_38 : decode (zmc m_X1_add) 38 = .ok (.getfield 24, 3) := by decide +kernel
theorem d_X1_add_41 : decode (zmc m_X1_add) 41 = .ok (.iload_n 3, 1) := by decide +kernel
theorem d_X1_add_42 : decode (zmc m_X1_add) 42 = .ok (.iastore, 1) := by decide +kernel
theorem d_X1_add_43 : decode (zmc m_X1_add) 43 = .ok (.aload_n 0, 1) := by decide +kernel
theorem d_X1_add_44 : decode (zmc m_X1_add) 44 = .ok (.getfield 21, 3) := by decide +kernel
theorem d_X1_add_47 : decode (zmc m_X1_add) 47 = .ok (.aload_n 0, 1) := by decide +kernel
theorem d_X1_add_48 : decode (zmc m_X1_add) 48 = .ok (.getfield 24, 3) := by decide +kernel
theorem d_X1_add_51 : decode (zmc m_X1_add) 51 = .ok (.iload 4, 2) := by decide +kernel
theorem d_X1_add_53 : decode (zmc m_X1_add) 53 = .ok (.iastore, 1) := by decide +kernel
theorem d_X1_add_54 : decode (zmc m_X1_add) 54 = .ok (.aload_n 0, 1) := by decide +kernel
theorem d_X1_add_55 : decode (zmc m_X1_add) 55 = .ok (.dup, 1) := by decide +kernel
theorem d_X1_add_56 : decode (zmc m_X1_add) 56 = .ok (.getfield 24, 3) := by decide +kernel
theorem d_X1_add_59 : decode (zmc m_X1_add) 59 = .ok (.iconst 1, 1) := by decide +kernel
theorem d_X1_add_60 : decode (zmc m_X1_add) 60 = .ok (.iadd, 1) := by decide +kernel
theorem d_X1_add_61 : decode (zmc m_X1_add) 61 = .ok (.putfield 24, 3) := by decide +kernel
theorem d_X1_add_64 : decode (zmc m_X1_add) 64 = .ok (.aload_n 0, 1) := by decide +kernel
theorem d_X1_add_65 : decode (zmc m_X1_add) 65 = .ok (.aload_n 0, 1) := by decide +kernel
theorem d_X1_add_66 : decode (zmc m_X1_add) 66 = .ok (.getfield 24, 3) := by decide +kernel
theorem d_X1_add_69 : decode (zmc m_X1_add) 69 = .ok (.putfield 31, 3) := by decide +kernel
theorem d_X1_add_72 : decode (zmc m_X1_add) 72 = .ok (.return_, 1) := by decide +kernel
theorem d_X1_doAgain_0 : decode (zmc m_X1_doAgain) 0 = .ok (.aload_n 0, 1) := by decide +kernel
theorem d_X1_doAgain_1 : decode (zmc m_X1_doAgain) 1 = .ok (.getfield 24, 3) := by decide +kernel
theorem d_X1_doAgain_4 : decode (zmc m_X1_doAgain) 4 = .ok (.aload_n 0, 1) := by decide +kernel
theorem d_X1_doAgain_5 : decode (zmc m_X1_doAgain) 5 = .ok (.getfield 31, 3) := by decide +kernel
theorem d_X1_doAgain_8 : decode (zmc m_X1_doAgain) 8 = .ok (.if_icmp .ge 12, 3) := by decide +kernel
theorem d_X1_doAgain_11 : decode (zmc m_X1_doAgain) 11 = .ok (.aload_n 0, 1) := by decide +kernel
theorem d_X1_doAgain_12 : decode (zmc m_X1_doAgain) 12 = .ok (.getfield 24, 3) := by decide +kernel
theorem d_X1_doAgain_15 : decode (zmc m_X1_doAgain) 15 = .ok (.bipush 40, 2) := by decide +kernel
theorem d_X1_doAgain_17 : decode (zmc m_X1_doAgain) 17 = .ok (.if_icmp .lt 6, 3) := by decide +kernel
theorem d_X1_doAgain_20 : decode (zmc m_X1_doAgain) 20 = .ok (.bipush (-5), 2) := by decide +kernel
theorem d_X1_doAgain_22 : decode (zmc m_X1_doAgain) 22 = .ok (.ireturn, 1) := by decide +kernel
theorem d_X1_doAgain_23 : decode (zmc m_X1_doAgain) 23 = .ok (.aload_n 0, 1) := by decide +kernel
theorem d_X1_doAgain_24 : decode (zmc m_X1_doAgain) 24 = .ok (.aload_n 1, 1) := by decide +kernel
theorem d_X1_doAgain_25 : decode (zmc m_X1_doAgain) 25 = .ok (.aload_n 0, 1) := by decide +kernel
theorem d_X1_doAgain_26 : decode (zmc m_X1_doAgain) 26 = .ok (.getfield 24, 3) := by decide +kernel
theorem d_X1_doAgain_29 : decode (zmc m_X1_doAgain) 29 = .ok (.aload_n 0, 1) := by decide +kernel
theorem d_X1_doAgain_30 : decode (zmc m_X1_doAgain) 30 = .ok (.getfield 21, 3) := by decide +kernel
theorem d_X1_doAgain_33 : decode (zmc m_X1_doAgain) 33 = .ok (.aload_n 0, 1) := by decide +kernel
theorem d_X1_doAgain_34 : decode (zmc m_X1_doAgain) 34 = .ok (.getfield 24, 3) := by decide +kernel
theorem d_X1_doAgain_37 : decode (zmc m_X1_doAgain) 37 = .ok (.iaload, 1) := by decide +kernel
theorem d_X1_doAgain_38 : decode (zmc m_X1_doAgain) 38 = .ok (.invokevirtual 40, 3) := by decide +kernel
theorem d_X1_doAgain_41 : decode (zmc m_X1_doAgain) 41 = .ok (.aload_n 0, 1) := by decide +kernel
theorem d_X1_doAgain_42 : decode (zmc m_X1_doAgain) 42 = .ok (.dup, 1) := by decide +kernel
theorem d_X1_doAgain_43 : decode (zmc m_X1_doAgain) 43 = .ok (.getfield 24, 3) := by decide +kernel
theorem d_X1_doAgain_46 : decode (zmc m_X1_doAgain) 46 = .ok (.iconst 1, 1) := by decide +kernel
theorem d_X1_doAgain_47 : decode (zmc m_X1_doAgain) 47 = .ok (.iadd, 1) := by decide +kernel
theorem d_X1_doAgain_48 : decode (zmc m_X1_doAgain) 48 = .ok (.putfield 24, 3) := by decide +kernel
theorem d_X1_doAgain_51 : decode (zmc m_X1_doAgain) 51 = .ok (.aload_n 0, 1) := by decide +kernel
theorem d_X1_doAgain_52 : decode (zmc m_X1_doAgain) 52 = .ok (.getfield 31, 3) := by decide +kernel
theorem d_X1_doAgain_55 : decode (zmc m_X1_doAgain) 55 = .ok (.aload_n 0, 1) := by decide +kernel
theorem d_X1_doAgain_56 : decode (zmc m_X1_doAgain) 56 = .ok (.getfield 24, 3) := by decide +kernel
theorem d_X1_doAgain_59 : decode (zmc m_X1_doAgain) 59 = .ok (.isub, 1) := by decide +kernel
theorem d_X1_doAgain_60 : decode (zmc m_X1_doAgain) 60 = .ok (.ireturn, 1) := by decide +kernel
theorem d_X1_forgetOldest_0 : decode (zmc m_X1_forgetOldest) 0 = .ok (.aload_n 0, 1) := by decide +kernel
theorem d_X1_forgetOldest_1 : decode (zmc m_X1_forgetOldest) 1 = .ok (.getfield 11, 3) := by decide +kernel
theorem d_X1_forgetOldest_4 : decode (zmc m_X1_forgetOldest) 4 = .ok (.iconst 1, 1) := by decide +kernel
theorem d_X1_forgetOldest_5 : decode (zmc m_X1_forgetOldest) 5 = .ok (.aload_n 0, 1) := by decide +kernel
theorem d_X1_forgetOldest_6 : decode (zmc m_X1_forgetOldest) 6 = .ok (.getfield 11, 3) := by decide +kernel
theorem d_X1_forgetOldest_9 : decode (zmc m_X1_forgetOldest) 9 = .ok (.iconst 0, 1) := by decide +kernel
theorem d_X1_forgetOldest_10 : decode (zmc m_X1_forgetOldest) 10 = .ok (.bipush 39, 2) := by decide +kernel
theorem d_X1_forgetOldest_12 : decode (zmc m_X1_forgetOldest) 12 = .ok (.invokestatic 34, 3) := by decide +kernel
theorem d_X1_forgetOldest_15 : decode (zmc m_X1_forgetOldest) 15 = .ok (.aload_n 0, 1) := by decide +kernel
theorem d_X1_forgetOldest_16 : decode (zmc m_X1_forgetOldest) 16 = .ok (.getfield 15, 3) := by decide +kernel
theorem d_X1_forgetOldest_19 : decode (zmc m_X1_forgetOldest) 19 = .ok (.iconst 1, 1) := by decide +kernel
theorem d_X1_forgetOldest_20 : decode (zmc m_X1_forgetOldest) 20 = .ok (.aload_n 0, 1) := by decide +kernel
theorem d_X1_forgetOldest_21 : decode (zmc m_X1_forgetOldest) 21 = .ok (.getfield 15, 3) := by decide +kernel
theorem d_X1_forgetOldest_24 : decode (zmc m_X1_forgetOldest) 24 = .ok (.iconst 0, 1) := by decide +kernel
theorem d_X1_forgetOldest_25 : decode (zmc m_X1_forgetOldest) 25 = .ok (.bipush 39, 2) := by decide +kernel
theorem d_X1_forgetOldest_27 : decode (zmc m_X1_forgetOldest) 27 = .ok (.invokestatic 34, 3) := by decide +kernel
theorem d_X1_forgetOldest_30 : decode (zmc m_X1_forgetOldest) 30 = .ok (.aload_n 0, 1) := by decide +kernel
theorem d_X1_forgetOldest_31 : decode (zmc m_X1_forgetOldest) 31 = .ok (.getfield 18, 3) := by decide +kernel
theorem d_X1_forgetOldest_34 : decode (zmc m_X1_forgetOldest) 34 = .ok (.iconst 1, 1) := by decide +kernel
theorem d_X1_forgetOldest_35 : decode (zmc m_X1_forgetOldest) 35 = .ok (.aload_n 0, 1) := by decide +kernel
theorem d_X1_forgetOldest_36 : decode (zmc m_X1_forgetOldest) 36 = .ok (.getfield 18, 3) := by decide +kernel
theorem d_X1_forgetOldest_39 : decode (zmc m_X1_forgetOldest) 39 = .ok (.iconst 0, 1) := by decide +kernel
theorem d_X1_forgetOldest_40 : decode (zmc m_X1_forgetOldest) 40 = .ok (.bipush 39, 2) := by decide +kernel
theorem d_X1_forgetOldest_42 : decode (zmc m_X1_forgetOldest) 42 = .ok (.invokestatic 34, 3) := by decide +kernel
theorem d_X1_forgetOldest_45 : decode (zmc m_X1_forgetOldest) 45 = .ok (.aload_n 0, 1) := by decide +kernel
theorem d_X1_forgetOldest_46 : decode (zmc m_X1_forgetOldest) 46 = .ok (.getfield 21, 3) := by decide +kernel
theorem d_X1_forgetOldest_49 : decode (zmc m_X1_forgetOldest) 49 = .ok (.iconst 1, 1) := by decide +kernel
theorem d_X1_forgetOldest_50 : decode (zmc m_X1_forgetOldest) 50 = .ok (.aload_n 0, 1) := by decide +kernel
theorem d_X1_forgetOldest_51 : decode (zmc m_X1_forgetOldest) 51 = .ok (.getfield 21, 3) := by decide +kernel
theorem d_X1_forgetOldest_54 : decode (zmc m_X1_forgetOldest) 54 = .ok (.iconst 0, 1) := by decide +kernel
theorem d_X1_forgetOldest_55 : decode (zmc m_X1_forgetOldest) 55 = .ok (.bipush 39, 2) := by decide +kernel
theorem d_X1_forgetOldest_57 : decode (zmc m_X1_forgetOldest) 57 = .ok (.invokestatic 34, 3) := by decide +kernel
theorem d_X1_forgetOldest_60 : decode (zmc m_X1_forgetOldest) 60 = .ok (.aload_n 0, 1) := by decide +kernel
theorem d_X1_forgetOldest_61 : decode (zmc m_X1_forgetOldest) 61 = .ok (.bipush 39, 2) := by decide +kernel
theorem d_X1_forgetOldest_63 : decode (zmc m_X1_forgetOldest) 63 = .ok (.putfield 24, 3) := by decide +kernel
theorem d_X1_forgetOldest_66 : decode (zmc m_X1_forgetOldest) 66 = .ok (.return_, 1) := by decide +kernel
theorem d_X1_lay_0 : decode (zmc m_X1_lay) 0 = .ok (.aload_n 0, 1) := by decide +kernel
theorem d_X1_lay_1 : decode (zmc m_X1_lay) 1 = .ok (.getfield 11, 3) := by decide +kernel
theorem d_X1_lay_4 : decode (zmc m_X1_lay) 4 = .ok (.iload_n 2, 1) := by decide +kernel
theorem d_X1_lay_5 : decode (zmc m_X1_lay) 5 = .ok (.iaload, 1) := by decide +kernel
theorem d_X1_lay_6 : decode (zmc m_X1_lay) 6 = .ok (.ifCond .ne 21, 3) := by decide +kernel
theorem d_X1_lay_9 : decode (zmc m_X1_lay) 9 = .ok (.aload_n 1, 1) := by decide +kernel
theorem d_X1_lay_10 : decode (zmc m_X1_lay) 10 = .ok (.iload_n 3, 1) := by decide +kernel
theorem d_X1_lay_11 : decode (zmc m_X1_lay) 11 = .ok (.aload_n 0, 1) := by decide +kernel
theorem d_X1_lay_12 : decode (zmc m_X1_lay) 12 = .ok (.getfield 15, 3) := by decide +kernel
theorem d_X1_lay_15 : decode (zmc m_X1_lay) 15 = .ok (.iload_n 2, 1) := by decide +kernel
theorem d_X1_lay_16 : decode (zmc m_X1_lay) 16 = .ok (.iaload, 1) := by decide +kernel
theorem d_X1_lay_17 : decode (zmc m_X1_lay) 17 = .ok (.invokevirtual 44, 3) := by decide +kernel
theorem d_X1_lay_20 : decode (zmc m_X1_lay) 20 = .ok (.ifCond .eq 7, 3) := by decide +kernel
theorem d_X1_lay_23 : decode (zmc m_X1_lay) 23 = .ok (.iconst 1, 1) := by decide +kernel
theorem d_X1_lay_24 : decode (zmc m_X1_lay) 24 = .ok (.goto 4, 3) := by decide +kernel
theorem d_X1_lay_27 : decode (zmc m_X1_lay) 27 = .ok (.iconst 0, 1) := by decide +kernel
theorem d_X1_lay_28 : decode (zmc m_X1_lay) 28 = .ok (.istore 4, 2) := by decide +kernel
theorem d_X1_lay_30 : decode (zmc m_X1_lay) 30 = .ok (.iload 4, 2) := by decide +kernel
theorem d_X1_lay_32 : decode (zmc m_X1_lay) 32 = .ok (.ifCond .ne 20, 3) := by decide +kernel
theorem d_X1_lay_35 : decode (zmc m_X1_lay) 35 = .ok (.aload_n 1, 1) := by decide +kernel
theorem d_X1_lay_36 : decode (zmc m_X1_lay) 36 = .ok (.aload_n 0, 1) := by decide +kernel
theorem d_X1_lay_37 : decode (zmc m_X1_lay) 37 = .ok (.getfield 11, 3) := by decide +kernel
theorem d_X1_lay_40 : decode (zmc m_X1_lay) 40 = .ok (.iload_n 2, 1) := by decide +kernel
theorem d_X1_lay_41 : decode (zmc m_X1_lay) 41 = .ok (.iaload, 1) := by decide +kernel
theorem d_X1_lay_42 : decode (zmc m_X1_lay) 42 = .ok (.aload_n 0, 1) := by decide +kernel
theorem d_X1_lay_43 : decode (zmc m_X1_lay) 43 = .ok (.getfield 15, 3) := by decide +kernel
theorem d_X1_lay_46 : decode (zmc m_X1_lay) 46 = .ok (.iload_n 2, 1) := by decide +kernel
theorem d_X1_lay_47 : decode (zmc m_X1_lay) 47 = .ok (.iaload, 1) := by decide +kernel
theorem d_X1_lay_48 : decode (zmc m_X1_lay) 48 = .ok (.iload_n 3, 1) := by decide +kernel
theorem d_X1_lay_49 : decode (zmc m_X1_lay) 49 = .ok (.invokevirtual 50, 3) := by decide +kernel
theorem d_X1_lay_52 : decode (zmc m_X1_lay) 52 = .ok (.return_, 1) := by decide +kernel
theorem d_X1_takeBack_0 : decode (zmc m_X1_takeBack) 0 = .ok (.aload_n 0, 1) := by decide +kernel
theorem d_X1_takeBack_1 : decode (zmc m_X1_takeBack) 1 = .ok (.getfield 24, 3) := by decide +kernel
theorem d_X1_takeBack_4 : decode (zmc m_X1_takeBack) 4 = .ok (.ifCond .gt 6, 3) := by decide +kernel
theorem d_X1_takeBack_7 : decode (zmc m_X1_takeBack) 7 = .ok (.bipush (-5), 2) := by decide +kernel
theorem d_X1_takeBack_9 : decode (zmc m_X1_takeBack) 9 = .ok (.ireturn, 1) := by decide +kernel
theorem d_X1_takeBack_10 : decode (zmc m_X1_takeBack) 10 = .ok (.aload_n 0, 1) := by decide +kernel
theorem d_X1_takeBack_11 : decode (zmc m_X1_takeBack) 11 = .ok (.dup, 1) := by decide +kernel
theorem d_X1_takeBack_12 : decode (zmc m_X1_takeBack) 12 = .ok (.getfield 24, 3) := by decide +kernel
theorem d_X1_takeBack_15 : decode (zmc m_X1_takeBack) 15 = .ok (.iconst 1, 1) := by decide +kernel
theorem d_X1_takeBack_16 : decode (zmc m_X1_takeBack) 16 = .ok (.isub, 1) := by decide +kernel
theorem d_X1_takeBack_17 : decode (zmc m_X1_takeBack) 17 = .ok (.putfield 24, 3) := by decide +kernel
theorem d_X1_takeBack_20 : decode (zmc m_X1_takeBack) 20 = .ok (.aload_n 0, 1) := by decide +kernel
theorem d_X1_takeBack_21 : decode (zmc m_X1_takeBack) 21 = .ok (.aload_n 1, 1) := by decide +kernel
theorem d_X1_takeBack_22 : decode (zmc m_X1_takeBack) 22 = .ok (.aload_n 0, 1) := by decide +kernel
theorem d_X1_takeBack_23 : decode (zmc m_X1_takeBack) 23 = .ok (.getfield 24, 3) := by decide +kernel
theorem d_X1_takeBack_26 : decode (zmc m_X1_takeBack) 26 = .ok (.aload_n 0, 1) := by decide +kernel
theorem d_X1_takeBack_27 : decode (zmc m_X1_takeBack) 27 = .ok (.getfield 18, 3) := by decide +kernel
theorem d_X1_takeBack_30 : decode (zmc m_X1_takeBack) 30 = .ok (.aload_n 0, 1) := by decide +kernel
theorem d_X1_takeBack_31 : decode (zmc m_X1_takeBack) 31 = .ok (.getfield 24, 3) := by decide +kernel
theorem d_X1_takeBack_34 : decode (zmc m_X1_takeBack) 34 = .ok (.iaload, 1) := by decide +kernel
theorem d_X1_takeBack_35 : decode (zmc m_X1_takeBack) 35 = .ok (.invokevirtual 40, 3) := by decide +kernel
theorem d_X1_takeBack_38 : decode (zmc m_X1_takeBack) 38 = .ok (.aload_n 0, 1) := by decide +kernel
theorem d_X1_takeBack_39 : decode (zmc m_X1_takeBack) 39 = .ok (.getfield 24, 3) := by decide +kernel
theorem d_X1_takeBack_42 : decode (zmc m_X1_takeBack) 42 = .ok (.ireturn, 1) := by decide +kernel
theorem d_X5_layOn_0 : decode (zmc m_X5_layOn) 0 = .ok (.iconst 0, 1) := by decide +kernel
theorem d_X5_layOn_1 : decode (zmc m_X5_layOn) 1 = .ok (.istore_n 2, 1) := by decide +kernel
theorem d_X5_layOn_2 : decode (zmc m_X5_layOn) 2 = .ok (.iload_n 2, 1) := by decide +kernel
theorem d_X5_layOn_3 : decode (zmc m_X5_layOn) 3 = .ok (.aload_n 0, 1) := by decide +kernel
theorem d_X5_layOn_4 : decode (zmc m_X5_layOn) 4 = .ok (.getfield 29, 3) := by decide +kernel
theorem d_X5_layOn_7 : decode (zmc m_X5_layOn) 7 = .ok (.if_icmp .ge 37, 3) := by decide +kernel
theorem d_X5_layOn_10 : decode (zmc m_X5_layOn) 10 = .ok (.aload_n 1, 1) := by decide +kernel
theorem d_X5_layOn_11 : decode (zmc m_X5_layOn) 11 = .ok (.iconst 4, 1) := by decide +kernel
theorem d_X5_layOn_12 : decode (zmc m_X5_layOn) 12 = .ok (.iload_n 2, 1) := by decide +kernel
theorem d_X5_layOn_13 : decode (zmc m_X5_layOn) 13 = .ok (.aload_n 0, 1) := by decide +kernel
theorem d_X5_layOn_14 : decode (zmc m_X5_layOn) 14 = .ok (.getfield 19, 3) := by decide +kernel
theorem d_X5_layOn_17 : decode (zmc m_X5_layOn) 17 = .ok (.iload_n 2, 1) := by decide +kernel
theorem d_X5_layOn_18 : decode (zmc m_X5_layOn) 18 = .ok (.ishr, 1) := by decide +kernel
theorem d_X5_layOn_19 : decode (zmc m_X5_layOn) 19 = .ok (.iconst 1, 1) := by decide +kernel
theorem d_X5_layOn_20 : decode (zmc m_X5_layOn) 20 = .ok (.iand, 1) := by decide +kernel
theorem d_X5_layOn_21 : decode (zmc m_X5_layOn) 21 = .ok (.invokevirtual 51, 3) := by decide +kernel
theorem d_X5_layOn_24 : decode (zmc m_X5_layOn) 24 = .ok (.aload_n 1, 1) := by decide +kernel
theorem d_X5_layOn_25 : decode (zmc m_X5_layOn) 25 = .ok (.iconst 5, 1) := by decide +kernel
theorem d_X5_layOn_26 : decode (zmc m_X5_layOn) 26 = .ok (.iload_n 2, 1) := by decide +kernel
theorem d_X5_layOn_27 : decode (zmc m_X5_layOn) 27 = .ok (.aload_n 0, 1) := by decide +kernel
theorem d_X5_layOn_28 : decode (zmc m_X5_layOn) 28 = .ok (.getfield 23, 3) := by decide +kernel
theorem d_X5_layOn_31 : decode (zmc m_X5_layOn) 31 = .ok (.iload_n 2, 1) := by decide +kernel
theorem d_X5_layOn_32 : decode (zmc m_X5_layOn) 32 = .ok (.ishr, 1) := by decide +kernel
theorem d_X5_layOn_33 : decode (zmc m_X5_layOn) 33 = .ok (.iconst 1, 1) := by decide +kernel
theorem d_X5_layOn_34 : decode (zmc m_X5_layOn) 34 = .ok (.iand, 1) := by decide +kernel
theorem d_X5_layOn_35 : decode (zmc m_X5_layOn) 35 = .ok (.invokevirtual 51, 3) := by decide +kernel
theorem d_X5_layOn_38 : decode (zmc m_X5_layOn) 38 = .ok (.iinc 2 1, 3) := by decide +kernel
theorem d_X5_layOn_41 : decode (zmc m_X5_layOn) 41 = .ok (.goto (-39), 3) := by decide +kernel
theorem d_X5_layOn_44 : decode (zmc m_X5_layOn) 44 = .ok (.aload_n 1, 1) := by decide +kernel
theorem d_X5_layOn_45 : decode (zmc m_X5_layOn) 45 = .ok (.bipush 9, 2) := by decide +kernel
theorem d_X5_layOn_47 : decode (zmc m_X5_layOn) 47 = .ok (.iconst 0, 1) := by decide +kernel
theorem d_X5_layOn_48 : decode (zmc m_X5_layOn) 48 = .ok (.aload_n 0, 1) := by decide +kernel
theorem d_X5_layOn_49 : decode (zmc m_X5_layOn) 49 = .ok (.getfield 34, 3) := by decide +kernel
theorem d_X5_layOn_52 : decode (zmc m_X5_layOn) 52 = .ok (.invokevirtual 51, 3) := by decide +kernel
theorem d_X5_layOn_55 : decode (zmc m_X5_layOn) 55 = .ok (.aload_n 1, 1) := by decide +kernel
theorem d_X5_layOn_56 : decode (zmc m_X5_layOn) 56 = .ok (.bipush 11, 2) := by decide +kernel
theorem d_X5_layOn_58 : decode (zmc m_X5_layOn) 58 = .ok (.iconst 0, 1) := by decide +kernel
theorem d_X5_layOn_59 : decode (zmc m_X5_layOn) 59 = .ok (.aload_n 0, 1) := by decide +kernel
theorem d_X5_layOn_60 : decode (zmc m_X5_layOn) 60 = .ok (.getfield 37, 3) := by decide +kernel
theorem d_X5_layOn_63 : decode (zmc m_X5_layOn) 63 = .ok (.invokevirtual 51, 3) := by decide +kernel
theorem d_X5_layOn_66 : decode (zmc m_X5_layOn) 66 = .ok (.aload_n 0, 1) := by decide +kernel
theorem d_X5_layOn_67 : decode (zmc m_X5_layOn) 67 = .ok (.getfield 9, 3) := by decide +kernel
theorem d_X5_layOn_70 : decode (zmc m_X5_layOn) 70 = .ok (.iconst 0, 1) := by decide +kernel
theorem d_X5_layOn_71 : decode (zmc m_X5_layOn) 71 = .ok (.aload_n 1, 1) := by decide +kernel
theorem d_X5_layOn_72 : decode (zmc m_X5_layOn) 72 = .ok (.getfield 40, 3) := by decide +kernel
theorem d_X5_layOn_75 : decode (zmc m_X5_layOn) 75 = .ok (.iconst 0, 1) := by decide +kernel
theorem d_X5_layOn_76 : decode (zmc m_X5_layOn) 76 = .ok (.iconst 5, 1) := by decide +kernel
theorem d_X5_layOn_77 : decode (zmc m_X5_layOn) 77 = .ok (.invokestatic 41, 3) := by decide +kernel
theorem d_X5_layOn_80 : decode (zmc m_X5_layOn) 80 = .ok (.return_, 1) := by decide +kernel
theorem d_X5_takeOf_0 : decode (zmc m_X5_takeOf) 0 = .ok (.aload_n 0, 1) := by decide +kernel
theorem d_X5_takeOf_1 : decode (zmc m_X5_takeOf) 1 = .ok (.aload_n 1, 1) := by decide +kernel
theorem d_X5_takeOf_2 : decode (zmc m_X5_takeOf) 2 = .ok (.iconst 4, 1) := by decide +kernel
theorem d_X5_takeOf_3 : decode (zmc m_X5_takeOf) 3 = .ok (.invokevirtual 15, 3) := by decide +kernel
theorem d_X5_takeOf_6 : decode (zmc m_X5_takeOf) 6 = .ok (.putfield 19, 3) := by decide +kernel
theorem d_X5_takeOf_9 : decode (zmc m_X5_takeOf) 9 = .ok (.aload_n 0, 1) := by decide +kernel
theorem d_X5_takeOf_10 : decode (zmc m_X5_takeOf) 10 = .ok (.aload_n 1, 1) := by decide +kernel
theorem d_X5_takeOf_11 : decode (zmc m_X5_takeOf) 11 = .ok (.iconst 5, 1) := by decide +kernel
theorem d_X5_takeOf_12 : decode (zmc m_X5_takeOf) 12 = .ok (.invokevirtual 15, 3) := by decide +kernel
theorem d_X5_takeOf_15 : decode (zmc m_X5_takeOf) 15 = .ok (.putfield 23, 3) := by decide +kernel
theorem d_X5_takeOf_18 : decode (zmc m_X5_takeOf) 18 = .ok (.aload_n 0, 1) := by decide +kernel
theorem d_X5_takeOf_19 : decode (zmc m_X5_takeOf) 19 = .ok (.aload_n 1, 1) := by decide +kernel
theorem d_X5_takeOf_20 : decode (zmc m_X5_takeOf) 20 = .ok (.getfield 26, 3) := by decide +kernel
theorem d_X5_takeOf_23 : decode (zmc m_X5_takeOf) 23 = .ok (.putfield 29, 3) := by decide +kernel
theorem d_X5_takeOf_26 : decode (zmc m_X5_takeOf) 26 = .ok (.aload_n 0, 1) := by decide +kernel
theorem d_X5_takeOf_27 : decode (zmc m_X5_takeOf) 27 = .ok (.aload_n 1, 1) := by decide +kernel
theorem d_X5_takeOf_28 : decode (zmc m_X5_takeOf) 28 = .ok (.bipush 9, 2) := by decide +kernel
theorem d_X5_takeOf_30 : decode (zmc m_X5_takeOf) 30 = .ok (.iconst 0, 1) := by decide +kernel
theorem d_X5_takeOf_31 : decode (zmc m_X5_takeOf) 31 = .ok (.invokevirtual 30, 3) := by decide +kernel
theorem d_X5_takeOf_34 : decode (zmc m_X5_takeOf) 34 = .ok (.putfield 34, 3) := by decide +kernel
theorem d_X5_takeOf_37 : decode (zmc m_X5_takeOf) 37 = .ok (.aload_n 0, 1) := by decide +kernel
theorem d_X5_takeOf_38 : decode (zmc m_X5_takeOf) 38 = .ok (.aload_n 1, 1) := by decide +kernel
theorem d_X5_takeOf_39 : decode (zmc m_X5_takeOf) 39 = .ok (.bipush 11, 2) := by decide +kernel
theorem d_X5_takeOf_41 : decode (zmc m_X5_takeOf) 41 = .ok (.iconst 0, 1) := by decide +kernel
theorem d_X5_takeOf_42 : decode (zmc m_X5_takeOf) 42 = .ok (.invokevirtual 30, 3) := by decide +kernel
theorem d_X5_takeOf_45 : decode (zmc m_X5_takeOf) 45 = .ok (.putfield 37, 3) := by decide +kernel
theorem d_X5_takeOf_48 : decode (zmc m_X5_takeOf) 48 = .ok (.aload_n 1, 1) := by decide +kernel
theorem d_X5_takeOf_49 : decode (zmc m_X5_takeOf) 49 = .ok (.getfield 40, 3) := by decide +kernel
theorem d_X5_takeOf_52 : decode (zmc m_X5_takeOf) 52 = .ok (.iconst 0, 1) := by decide +kernel
theorem d_X5_takeOf_53 : decode (zmc m_X5_takeOf) 53 = .ok (.aload_n 0, 1) := by decide +kernel
theorem d_X5_takeOf_54 : decode (zmc m_X5_takeOf) 54 = .ok (.getfield 9, 3) := by decide +kernel
theorem d_X5_takeOf_57 : decode (zmc m_X5_takeOf) 57 = .ok (.iconst 0, 1) := by decide +kernel
theorem d_X5_takeOf_58 : decode (zmc m_X5_takeOf) 58 = .ok (.iconst 5, 1) := by decide +kernel
theorem d_X5_takeOf_59 : decode (zmc m_X5_takeOf) 59 = .ok (.invokestatic 41, 3) := by decide +kernel
theorem d_X5_takeOf_62 : decode (zmc m_X5_takeOf) 62 = .ok (.aload_n 0, 1) := by decide +kernel
theorem d_X5_takeOf_63 : decode (zmc m_X5_takeOf) 63 = .ok (.iconst 1, 1) := by decide +kernel
theorem d_X5_takeOf_64 : decode (zmc m_X5_takeOf) 64 = .ok (.putfield 47, 3) := by decide +kernel
theorem d_X5_takeOf_67 : decode (zmc m_X5_takeOf) 67 = .ok (.return_, 1) := by decide +kernel
/-! CHANGES, AN IMAGE -/
theorem zup_3 {α : Type} {f : Nat → α} {a b : Nat} {x y z : α} (h : a ≠ b) : zup (zup (zup f a x) b y) a z = zup (zup f a z) b y := by
  funext j
  unfold zup
  by_cases h1 : j = a
  · subst h1; simp [h]
  · simp [h1]
theorem zup_comm {α : Type} {f : Nat → α} {a b : Nat} {x y : α} (h : a ≠ b) : zup (zup f a x) b y = zup (zup f b y) a x := by
  funext j
  unfold zup
  by_cases h1 : j = a
  · subst h1; simp [h]
  · simp [h1]
theorem zup_self {α : Type} {f : Nat → α} {a : Nat} : zup f a (f a) = f := by
  funext j; unfold zup; split <;> simp_all
def zLay (I : Nat → Nat → Int32) (ns nt nh : Nat) (what number v : Int32) : Nat → Nat → Int32 := if what = 0 ∧ (¬ zfind (I 3) v ns 0 = -2 ∧ ¬ zfind (I 3) v ns 0 = number) then I else zSetI I ns nt nh what number v
theorem zSetI_ne {I : Nat → Nat → Int32} {ns nt nh a : Nat} {what number v : Int32} (h : a < 3 ∨ 14 < a) : zSetI I ns nt nh what number v a = I a := by
  unfold zSetI
  split
  next q =>
    have hw : ¬ (what < 0 ∨ 12 ≤ what) := by
      intro z
      have e : zHold ns nt nh what = 0 := if_pos z
      have := q.2
      rw [e] at this
      have := q.1
      have e0 : nI 0 = 0 := rfl
      grind
    obtain ⟨j, hj, rfl⟩ := zn1 (x := what) (n := 12) (by omega) (by grind) (by have : nI 12 = 12 := rfl; grind)
    rw [zcl_n (by omega), zup_ne (by omega)]
  next => rfl
theorem zLay_ne {I : Nat → Nat → Int32} {ns nt nh a : Nat} {what number v : Int32} (h : a < 3 ∨ 14 < a) : zLay I ns nt nh what number v a = I a := by
  unfold zLay
  split
  · rfl
  · exact zSetI_ne h
def zForg (I : Nat → Nat → Int32) : Nat → Nat → Int32 := zup (zup (zup (zup (zup I 32 (va_cpy (I 32) (I 32) 1 0 39)) 33 (va_cpy (I 33) (I 33) 1 0 39)) 34 (va_cpy (I 34) (I 34) 1 0 39)) 35 (va_cpy (I 35) (I 35) 1 0 39)) 31 (zup (I 31) 4 39)
def zChgW (I : Nat → Nat → Int32) (k : Nat) (c o f t : Int32) : Nat → Nat → Int32 := zup (zup (zup (zup (zup I 32 (zup (I 32) k c)) 33 (zup (I 33) k o)) 34 (zup (I 34) k f)) 35 (zup (I 35) k t)) 31 (zup (zup (I 31) 4 (nI (k + 1))) 5 (nI (k + 1)))
def zChg (I : Nat → Nat → Int32) (dn : Nat) (c o f t : Int32) : Nat → Nat → Int32 := if dn = 40 then zChgW (zForg I) 39 c o f t else zChgW I dn c o f t
def zTakeI (I : Nat → Nat → Int32) (ns : Nat) : Nat → Nat → Int32 :=
  zup (zup I 37 (va_cpy (I 15) (I 37) 0 0 5)) 36 (zup (zup (zup (zup (zup (zup (I 36) 1 (zbits (I 7) ns)) 2 (zbits (I 8) ns)) 3 (nI ns)) 4 (I 12 0)) 5 (I 14 0)) 6 1)
def zBitF (b : Int32) (f : Nat → Int32) (n k : Nat) : Nat → Int32 := zfor (fun k f => zup f k ((b >>> (nI k &&& 31)) &&& 1)) n k f
def zBackI (I : Nat → Nat → Int32) (ks : Nat) : Nat → Nat → Int32 :=
  zup (zup (zup (zup (zup I 7 (zBitF (I 36 1) (I 7) ks 0)) 8 (zBitF (I 36 2) (I 8) ks 0)) 12 (zup (I 12) 0 (I 36 4))) 14 (zup (I 14) 0 (I 36 5))) 15 (va_cpy (I 37) (I 15) 0 0 5)
section S12
variable {g : zG} {l : Launch} {d : Nat} {I : Nat → Nat → Int32} {L : Nat → Nat → Int64} {fs : Nat × Nat × Option Nat} {ns nt nh : Nat}
theorem zSky_of {I' : Nat → Nat → Int32} (h : I' 1 = I 1) (hK : zSky I ns nt nh) : zSky I' ns nt nh := by
  unfold zSky; rw [h]; exact hK
theorem sp_X1_lay (hd : 4 ≤ d) (hK : zSky I ns nt nh) {c : Nat} (hc : c < 40) {v : Int32} : zSp g l d 100 m_X1_lay [.ref 31, .ref 1, .int (nI c), .int v] (zU I L fs) (zV (fun w => w = zU (zLay I ns nt nh (I 32 c) (I 33 c) v) L fs)) := by
  refine zSp_of (lv := [(0, .ref 31), (1, .ref 1), (2, .int (nI c)), (3, .int v)]) k_X1_lay rfl (Nat.le_of_ble_eq_true rfl) ?_
  refine zAloadN d_X1_lay_0 rfl rfl (q := 1) rfl ?_
  refine zGetR d_X1_lay_1 ff_X1_11 sh_31 (by decide) r_31_0 (q := 4) rfl ?_
  refine zIloadN d_X1_lay_4 rfl rfl (q := 5) rfl ?_
  refine zIald d_X1_lay_5 sh_32 (by decide) rfl hc (q := 6) rfl ?_
  refine zIf_ne d_X1_lay_6 (tgt := 27) (q := 9) (by decide) rfl (fun h6 => ?_) (fun h6 => ?_)
  · refine zIconst d_X1_lay_27 (v := 0) ic_0 (q := 28) rfl ?_
    refine zIstore d_X1_lay_28 (by decide) rfl (q := 30) rfl ?_
    refine zIload d_X1_lay_30 rfl (q := 32) rfl ?_
    refine zIf_ne d_X1_lay_32 (tgt := 52) (q := 35) (by decide) rfl (fun h => absurd h (by decide)) (fun _ => ?_)
    refine zAloadN d_X1_lay_35 rfl rfl (q := 36) rfl ?_
    refine zAloadN d_X1_lay_36 rfl rfl (q := 37) rfl ?_
    refine zGetR d_X1_lay_37 ff_X1_11 sh_31 (by decide) r_31_0 (q := 40) rfl ?_
    refine zIloadN d_X1_lay_40 rfl rfl (q := 41) rfl ?_
    refine zIald d_X1_lay_41 sh_32 (by decide) rfl hc (q := 42) rfl ?_
    refine zAloadN d_X1_lay_42 rfl rfl (q := 43) rfl ?_
    refine zGetR d_X1_lay_43 ff_X1_15 sh_31 (by decide) r_31_1 (q := 46) rfl ?_
    refine zIloadN d_X1_lay_46 rfl rfl (q := 47) rfl ?_
    refine zIald d_X1_lay_47 sh_33 (by decide) rfl hc (q := 48) rfl ?_
    refine zIloadN d_X1_lay_48 rfl rfl (q := 49) rfl ?_
    refine zCallVV d_X1_lay_49 ml_X1_50 k_X9_set ki_X9_set ks_X9_set (sp_X9_set (d := d - 1) (by omega) hK) rfl rfl sh_1 (by decide) rfl (by decide) (Nat.le_of_ble_eq_true rfl) (by decide) (by omega) zns100 (q := 52) rfl (fun w' hw' => ?_)
    subst hw'
    refine zVret d_X1_lay_52 rfl rfl ?_
    exact ⟨rfl, by unfold zLay; first | rw [if_neg (fun q => h6 q.1)] | rw [if_neg (fun q => bi_0.mp h20 q.2)] | rw [if_pos ⟨h6, bi_n0.mp h20⟩]⟩
  · refine zAloadN d_X1_lay_9 rfl rfl (q := 10) rfl ?_
    refine zIloadN d_X1_lay_10 rfl rfl (q := 11) rfl ?_
    refine zAloadN d_X1_lay_11 rfl rfl (q := 12) rfl ?_
    refine zGetR d_X1_lay_12 ff_X1_15 sh_31 (by decide) r_31_1 (q := 15) rfl ?_
    refine zIloadN d_X1_lay_15 rfl rfl (q := 16) rfl ?_
    refine zIald d_X1_lay_16 sh_33 (by decide) rfl hc (q := 17) rfl ?_
    refine zCallVP d_X1_lay_17 ml_X1_44 k_X9_isTakenByOther ki_X9_isTakenByOther ks_X9_isTakenByOther (sp_X9_isTakenByOther (d := d - 1) (by omega) hK) rfl rfl sh_1 (by decide) rfl (by decide) (Nat.le_of_ble_eq_true rfl) (by decide) (by omega) zns100 (q := 20) rfl ?_
    refine zIf_eq d_X1_lay_20 (tgt := 27) (q := 23) (by decide) rfl (fun h20 => ?_) (fun h20 => ?_)
    · refine zIconst d_X1_lay_27 (v := 0) ic_0 (q := 28) rfl ?_
      refine zIstore d_X1_lay_28 (by decide) rfl (q := 30) rfl ?_
      refine zIload d_X1_lay_30 rfl (q := 32) rfl ?_
      refine zIf_ne d_X1_lay_32 (tgt := 52) (q := 35) (by decide) rfl (fun h => absurd h (by decide)) (fun _ => ?_)
      refine zAloadN d_X1_lay_35 rfl rfl (q := 36) rfl ?_
      refine zAloadN d_X1_lay_36 rfl rfl (q := 37) rfl ?_
      refine zGetR d_X1_lay_37 ff_X1_11 sh_31 (by decide) r_31_0 (q := 40) rfl ?_
      refine zIloadN d_X1_lay_40 rfl rfl (q := 41) rfl ?_
      refine zIald d_X1_lay_41 sh_32 (by decide) rfl hc (q := 42) rfl ?_
      refine zAloadN d_X1_lay_42 rfl rfl (q := 43) rfl ?_
      refine zGetR d_X1_lay_43 ff_X1_15 sh_31 (by decide) r_31_1 (q := 46) rfl ?_
      refine zIloadN d_X1_lay_46 rfl rfl (q := 47) rfl ?_
      refine zIald d_X1_lay_47 sh_33 (by decide) rfl hc (q := 48) rfl ?_
      refine zIloadN d_X1_lay_48 rfl rfl (q := 49) rfl ?_
      refine zCallVV d_X1_lay_49 ml_X1_50 k_X9_set ki_X9_set ks_X9_set (sp_X9_set (d := d - 1) (by omega) hK) rfl rfl sh_1 (by decide) rfl (by decide) (Nat.le_of_ble_eq_true rfl) (by decide) (by omega) zns100 (q := 52) rfl (fun w' hw' => ?_)
      subst hw'
      refine zVret d_X1_lay_52 rfl rfl ?_
      exact ⟨rfl, by unfold zLay; first | rw [if_neg (fun q => h6 q.1)] | rw [if_neg (fun q => bi_0.mp h20 q.2)] | rw [if_pos ⟨h6, bi_n0.mp h20⟩]⟩
    · refine zIconst d_X1_lay_23 (v := 1) ic_1 (q := 24) rfl ?_
      refine zGoto d_X1_lay_24 (q := 28) (by decide) ?_
      refine zIstore d_X1_lay_28 (by decide) rfl (q := 30) rfl ?_
      refine zIload d_X1_lay_30 rfl (q := 32) rfl ?_
      refine zIf_ne d_X1_lay_32 (tgt := 52) (q := 35) (by decide) rfl (fun _ => ?_) (fun h => absurd h (by decide))
      refine zVret d_X1_lay_52 rfl rfl ?_
      exact ⟨rfl, by unfold zLay; first | rw [if_neg (fun q => h6 q.1)] | rw [if_neg (fun q => bi_0.mp h20 q.2)] | rw [if_pos ⟨h6, bi_n0.mp h20⟩]⟩
theorem sp_X1_takeBack (hd : 5 ≤ d) (hK : zSky I ns nt nh) {dn : Nat} (hdn : I 31 4 = nI dn) (h40 : dn ≤ 40) : zSp g l d 100 m_X1_takeBack [.ref 31, .ref 1] (zU I L fs) (zX (fun x w => (dn = 0 ∧ x = -5 ∧ w = zU I L fs) ∨ (0 < dn ∧ x = nI (dn - 1) ∧ w = zU (zLay (zup I 31 (zup (I 31) 4 (nI (dn - 1)))) ns nt nh (I 32 (dn - 1)) (I 33 (dn - 1)) (I 34 (dn - 1))) L fs))) := by
  refine zSp_of (lv := [(0, .ref 31), (1, .ref 1)]) k_X1_takeBack rfl (Nat.le_of_ble_eq_true rfl) ?_
  refine zAloadN d_X1_takeBack_0 rfl rfl (q := 1) rfl ?_
  refine zGetI d_X1_takeBack_1 ff_X1_24 sh_31 (by decide) (q := 4) rfl ?_
  refine zIf_gt d_X1_takeBack_4 (tgt := 10) (q := 7) (by decide) rfl (fun h4 => ?_) (fun h4 => ?_)
  · have hp : 0 < dn := by rw [hdn] at h4; exact nlt (a := 0) h4
    obtain ⟨k, rfl⟩ : ∃ k, dn = k + 1 := ⟨dn - 1, by omega⟩
    refine zAloadN d_X1_takeBack_10 rfl rfl (q := 11) rfl ?_
    refine zDup d_X1_takeBack_11 rfl (q := 12) rfl ?_
    refine zGetI d_X1_takeBack_12 ff_X1_24 sh_31 (by decide) (q := 15) rfl ?_
    refine zIconst d_X1_takeBack_15 (v := 1) ic_1 (q := 16) rfl ?_
    refine zIsub d_X1_takeBack_16 (q := 17) rfl ?_
    refine zPutI d_X1_takeBack_17 ff_X1_24 rfl rfl rfl sh_31 (by decide) (q := 20) rfl ?_
    rw [hdn, nI_pred]
    have e1 : (zup I 31 (zup (I 31) 4 (nI k))) 31 4 = nI k := rfl
    refine zAloadN d_X1_takeBack_20 rfl rfl (q := 21) rfl ?_
    refine zAloadN d_X1_takeBack_21 rfl rfl (q := 22) rfl ?_
    refine zAloadN d_X1_takeBack_22 rfl rfl (q := 23) rfl ?_
    refine zGetI d_X1_takeBack_23 ff_X1_24 sh_31 (by decide) (q := 26) rfl ?_
    refine zAloadN d_X1_takeBack_26 rfl rfl (q := 27) rfl ?_
    refine zGetR d_X1_takeBack_27 ff_X1_18 sh_31 (by decide) r_31_2 (q := 30) rfl ?_
    refine zAloadN d_X1_takeBack_30 rfl rfl (q := 31) rfl ?_
    refine zGetI d_X1_takeBack_31 ff_X1_24 sh_31 (by decide) (q := 34) rfl ?_
    refine zIald d_X1_takeBack_34 sh_34 (by decide) e1 (by omega) (q := 35) rfl ?_
    rw [e1]
    refine zCallVV d_X1_takeBack_35 ml_X1_40 k_X1_lay ki_X1_lay ks_X1_lay (sp_X1_lay (d := d - 1) (by omega) (zSky_up (a := 31) hK (by decide)) (c := k) (by omega)) rfl rfl sh_31 (by decide) rfl (by decide) (Nat.le_of_ble_eq_true rfl) (by decide) (by omega) zns100 (q := 38) rfl (fun w' hw' => ?_)
    subst hw'
    refine zAloadN d_X1_takeBack_38 rfl rfl (q := 39) rfl ?_
    refine zGetI d_X1_takeBack_39 ff_X1_24 sh_31 (by decide) (q := 42) rfl ?_
    refine zIret d_X1_takeBack_42 rfl rfl rfl ?_
    exact ⟨_, rfl, Or.inr ⟨hp, by rw [zLay_ne (by decide)]; rfl, rfl⟩⟩
  · have e : dn = 0 := by rw [hdn] at h4; have := nnlt (a := 0) h4; omega
    refine zBipush d_X1_takeBack_7 (v := -5) bc_m5 (q := 9) rfl ?_
    refine zIret d_X1_takeBack_9 rfl rfl rfl ?_
    exact ⟨_, rfl, Or.inl ⟨e, rfl, rfl⟩⟩
theorem sp_X1_doAgain (hd : 5 ≤ d) (hK : zSky I ns nt nh) {dn al : Nat} (hdn : I 31 4 = nI dn) (hal : I 31 5 = nI al) (h40 : al ≤ 40) (hle : dn ≤ al) : zSp g l d 100 m_X1_doAgain [.ref 31, .ref 1] (zU I L fs) (zX (fun x w => (dn = al ∧ x = -5 ∧ w = zU I L fs) ∨ (dn < al ∧ x = nI (al - (dn + 1)) ∧ w = zU (zup (zLay I ns nt nh (I 32 dn) (I 33 dn) (I 35 dn)) 31 (zup (I 31) 4 (nI (dn + 1)))) L fs))) := by
  refine zSp_of (lv := [(0, .ref 31), (1, .ref 1)]) k_X1_doAgain rfl (Nat.le_of_ble_eq_true rfl) ?_
  refine zAloadN d_X1_doAgain_0 rfl rfl (q := 1) rfl ?_
  refine zGetI d_X1_doAgain_1 ff_X1_24 sh_31 (by decide) (q := 4) rfl ?_
  refine zAloadN d_X1_doAgain_4 rfl rfl (q := 5) rfl ?_
  refine zGetI d_X1_doAgain_5 ff_X1_31 sh_31 (by decide) (q := 8) rfl ?_
  refine zIcmp_ge d_X1_doAgain_8 (tgt := 20) (q := 11) (by decide) rfl (fun h8 => ?_) (fun h8 => ?_)
  · have e : dn = al := by rw [hdn, hal] at h8; have := nle h8; omega
    refine zBipush d_X1_doAgain_20 (v := -5) bc_m5 (q := 22) rfl ?_
    refine zIret d_X1_doAgain_22 rfl rfl rfl ?_
    exact ⟨_, rfl, Or.inl ⟨e, rfl, rfl⟩⟩
  · have hlt : dn < al := by rw [hdn, hal] at h8; exact nnle h8
    refine zAloadN d_X1_doAgain_11 rfl rfl (q := 12) rfl ?_
    refine zGetI d_X1_doAgain_12 ff_X1_24 sh_31 (by decide) (q := 15) rfl ?_
    refine zBipush d_X1_doAgain_15 (v := 40) bc_40 (q := 17) rfl ?_
    refine zIcmp_lt d_X1_doAgain_17 (tgt := 23) (q := 20) (by decide) rfl (fun h17 => ?_) (fun h => absurd (by rw [hdn]; exact (nI_ltI (b := 40) (by omega) (by omega)).mpr (by omega)) h)
    refine zAloadN d_X1_doAgain_23 rfl rfl (q := 24) rfl ?_
    refine zAloadN d_X1_doAgain_24 rfl rfl (q := 25) rfl ?_
    refine zAloadN d_X1_doAgain_25 rfl rfl (q := 26) rfl ?_
    refine zGetI d_X1_doAgain_26 ff_X1_24 sh_31 (by decide) (q := 29) rfl ?_
    refine zAloadN d_X1_doAgain_29 rfl rfl (q := 30) rfl ?_
    refine zGetR d_X1_doAgain_30 ff_X1_21 sh_31 (by decide) r_31_3 (q := 33) rfl ?_
    refine zAloadN d_X1_doAgain_33 rfl rfl (q := 34) rfl ?_
    refine zGetI d_X1_doAgain_34 ff_X1_24 sh_31 (by decide) (q := 37) rfl ?_
    refine zIald d_X1_doAgain_37 sh_35 (by decide) hdn (by omega) (q := 38) rfl ?_
    rw [hdn]
    refine zCallVV d_X1_doAgain_38 ml_X1_40 k_X1_lay ki_X1_lay ks_X1_lay (sp_X1_lay (d := d - 1) (by omega) hK (c := dn) (by omega)) rfl rfl sh_31 (by decide) rfl (by decide) (Nat.le_of_ble_eq_true rfl) (by decide) (by omega) zns100 (q := 41) rfl (fun w' hw' => ?_)
    subst hw'
    refine zAloadN d_X1_doAgain_41 rfl rfl (q := 42) rfl ?_
    refine zDup d_X1_doAgain_42 rfl (q := 43) rfl ?_
    refine zGetI d_X1_doAgain_43 ff_X1_24 sh_31 (by decide) (q := 46) rfl ?_
    refine zIconst d_X1_doAgain_46 (v := 1) ic_1 (q := 47) rfl ?_
    refine zIadd d_X1_doAgain_47 (q := 48) rfl ?_
    refine zPutI d_X1_doAgain_48 ff_X1_24 rfl rfl rfl sh_31 (by decide) (q := 51) rfl ?_
    rw [zLay_ne (a := 31) (by decide), hdn, nI_1]
    refine zAloadN d_X1_doAgain_51 rfl rfl (q := 52) rfl ?_
    refine zGetI d_X1_doAgain_52 ff_X1_31 sh_31 (by decide) (q := 55) rfl ?_
    refine zAloadN d_X1_doAgain_55 rfl rfl (q := 56) rfl ?_
    refine zGetI d_X1_doAgain_56 ff_X1_24 sh_31 (by decide) (q := 59) rfl ?_
    refine zIsub d_X1_doAgain_59 (q := 60) rfl ?_
    refine zIret d_X1_doAgain_60 rfl rfl rfl ?_
    refine ⟨_, rfl, Or.inr ⟨hlt, ?_, rfl⟩⟩
    show I 31 5 - nI (dn + 1) = _
    rw [hal, pk_sub (by omega)]
theorem sp_X1_forgetOldest (hd : 2 ≤ d) : zSp g l d 100 m_X1_forgetOldest [.ref 31] (zU I L fs) (zV (fun w => w = zU (zForg I) L fs)) := by
  refine zSp_of (lv := [(0, .ref 31)]) k_X1_forgetOldest rfl (Nat.le_of_ble_eq_true rfl) ?_
  refine zAloadN d_X1_forgetOldest_0 rfl rfl (q := 1) rfl ?_
  refine zGetR d_X1_forgetOldest_1 ff_X1_11 sh_31 (by decide) r_31_0 (q := 4) rfl ?_
  refine zIconst d_X1_forgetOldest_4 (v := 1) ic_1 (q := 5) rfl ?_
  refine zAloadN d_X1_forgetOldest_5 rfl rfl (q := 6) rfl ?_
  refine zGetR d_X1_forgetOldest_6 ff_X1_11 sh_31 (by decide) r_31_0 (q := 9) rfl ?_
  refine zIconst d_X1_forgetOldest_9 (v := 0) ic_0 (q := 10) rfl ?_
  refine zBipush d_X1_forgetOldest_10 (v := 39) bc_39 (q := 12) rfl ?_
  refine zCopyI (i := 1) (j := 0) (k := 39) d_X1_forgetOldest_12 ml_X1_34 sh_32 (by decide) sh_32 (by decide) rfl rfl rfl (by decide) (by decide) hd (by decide) (q := 15) rfl ?_
  refine zAloadN d_X1_forgetOldest_15 rfl rfl (q := 16) rfl ?_
  refine zGetR d_X1_forgetOldest_16 ff_X1_15 sh_31 (by decide) r_31_1 (q := 19) rfl ?_
  refine zIconst d_X1_forgetOldest_19 (v := 1) ic_1 (q := 20) rfl ?_
  refine zAloadN d_X1_forgetOldest_20 rfl rfl (q := 21) rfl ?_
  refine zGetR d_X1_forgetOldest_21 ff_X1_15 sh_31 (by decide) r_31_1 (q := 24) rfl ?_
  refine zIconst d_X1_forgetOldest_24 (v := 0) ic_0 (q := 25) rfl ?_
  refine zBipush d_X1_forgetOldest_25 (v := 39) bc_39 (q := 27) rfl ?_
  refine zCopyI (i := 1) (j := 0) (k := 39) d_X1_forgetOldest_27 ml_X1_34 sh_33 (by decide) sh_33 (by decide) rfl rfl rfl (by decide) (by decide) hd (by decide) (q := 30) rfl ?_
  refine zAloadN d_X1_forgetOldest_30 rfl rfl (q := 31) rfl ?_
  refine zGetR d_X1_forgetOldest_31 ff_X1_18 sh_31 (by decide) r_31_2 (q := 34) rfl ?_
  refine zIconst d_X1_forgetOldest_34 (v := 1) ic_1 (q := 35) rfl ?_
  refine zAloadN d_X1_forgetOldest_35 rfl rfl (q := 36) rfl ?_
  refine zGetR d_X1_forgetOldest_36 ff_X1_18 sh_31 (by decide) r_31_2 (q := 39) rfl ?_
  refine zIconst d_X1_forgetOldest_39 (v := 0) ic_0 (q := 40) rfl ?_
  refine zBipush d_X1_forgetOldest_40 (v := 39) bc_39 (q := 42) rfl ?_
  refine zCopyI (i := 1) (j := 0) (k := 39) d_X1_forgetOldest_42 ml_X1_34 sh_34 (by decide) sh_34 (by decide) rfl rfl rfl (by decide) (by decide) hd (by decide) (q := 45) rfl ?_
  refine zAloadN d_X1_forgetOldest_45 rfl rfl (q := 46) rfl ?_
  refine zGetR d_X1_forgetOldest_46 ff_X1_21 sh_31 (by decide) r_31_3 (q := 49) rfl ?_
  refine zIconst d_X1_forgetOldest_49 (v := 1) ic_1 (q := 50) rfl ?_
  refine zAloadN d_X1_forgetOldest_50 rfl rfl (q := 51) rfl ?_
  refine zGetR d_X1_forgetOldest_51 ff_X1_21 sh_31 (by decide) r_31_3 (q := 54) rfl ?_
  refine zIconst d_X1_forgetOldest_54 (v := 0) ic_0 (q := 55) rfl ?_
  refine zBipush d_X1_forgetOldest_55 (v := 39) bc_39 (q := 57) rfl ?_
  refine zCopyI (i := 1) (j := 0) (k := 39) d_X1_forgetOldest_57 ml_X1_34 sh_35 (by decide) sh_35 (by decide) rfl rfl rfl (by decide) (by decide) hd (by decide) (q := 60) rfl ?_
  refine zAloadN d_X1_forgetOldest_60 rfl rfl (q := 61) rfl ?_
  refine zBipush d_X1_forgetOldest_61 (v := 39) bc_39 (q := 63) rfl ?_
  refine zPutI d_X1_forgetOldest_63 ff_X1_24 rfl rfl rfl sh_31 (by decide) (q := 66) rfl ?_
  refine zVret d_X1_forgetOldest_66 rfl rfl ?_
  exact ⟨rfl, rfl⟩
theorem sp_X1_add (hd : 3 ≤ d) {dn : Nat} (hdn : I 31 4 = nI dn) (h40 : dn ≤ 40) {c o f t : Int32} : zSp g l d 100 m_X1_add [.ref 31, .int c, .int o, .int f, .int t] (zU I L fs) (zV (fun w => w = zU (zChg I dn c o f t) L fs)) := by
  have tail : ∀ (I : Nat → Nat → Int32) (k : Nat), I 31 4 = nI k → k < 40 → zA g l d m_X1_add I L fs 13 [(0, .ref 31), (1, .int c), (2, .int o), (3, .int f), (4, .int t)] (zV (fun w => w = zU (zChgW I k c o f t) L fs)) := by
    intro I k hk hk40
    refine zAloadN d_X1_add_13 rfl rfl (q := 14) rfl ?_
    refine zGetR d_X1_add_14 ff_X1_11 sh_31 (by decide) r_31_0 (q := 17) rfl ?_
    refine zAloadN d_X1_add_17 rfl rfl (q := 18) rfl ?_
    refine zGetI d_X1_add_18 ff_X1_24 sh_31 (by decide) (q := 21) rfl ?_
    refine zIloadN d_X1_add_21 rfl rfl (q := 22) rfl ?_
    refine zIast d_X1_add_22 sh_32 (by decide) hk hk40 (q := 23) rfl ?_
    refine zAloadN d_X1_add_23 rfl rfl (q := 24) rfl ?_
    refine zGetR d_X1_add_24 ff_X1_15 sh_31 (by decide) r_31_1 (q := 27) rfl ?_
    refine zAloadN d_X1_add_27 rfl rfl (q := 28) rfl ?_
    refine zGetI d_X1_add_28 ff_X1_24 sh_31 (by decide) (q := 31) rfl ?_
    refine zIloadN d_X1_add_31 rfl rfl (q := 32) rfl ?_
    refine zIast d_X1_add_32 sh_33 (by decide) hk hk40 (q := 33) rfl ?_
    refine zAloadN d_X1_add_33 rfl rfl (q := 34) rfl ?_
    refine zGetR d_X1_add_34 ff_X1_18 sh_31 (by decide) r_31_2 (q := 37) rfl ?_
    refine zAloadN d_X1_add_37 rfl rfl (q := 38) rfl ?_
    refine zGetI d_X1_add_38 ff_X1_24 sh_31 (by decide) (q := 41) rfl ?_
    refine zIloadN d_X1_add_41 rfl rfl (q := 42) rfl ?_
    refine zIast d_X1_add_42 sh_34 (by decide) hk hk40 (q := 43) rfl ?_
    refine zAloadN d_X1_add_43 rfl rfl (q := 44) rfl ?_
    refine zGetR d_X1_add_44 ff_X1_21 sh_31 (by decide) r_31_3 (q := 47) rfl ?_
    refine zAloadN d_X1_add_47 rfl rfl (q := 48) rfl ?_
    refine zGetI d_X1_add_48 ff_X1_24 sh_31 (by decide) (q := 51) rfl ?_
    refine zIload d_X1_add_51 rfl (q := 53) rfl ?_
    refine zIast d_X1_add_53 sh_35 (by decide) hk hk40 (q := 54) rfl ?_
    refine zAloadN d_X1_add_54 rfl rfl (q := 55) rfl ?_
    refine zDup d_X1_add_55 rfl (q := 56) rfl ?_
    refine zGetI d_X1_add_56 ff_X1_24 sh_31 (by decide) (q := 59) rfl ?_
    refine zIconst d_X1_add_59 (v := 1) ic_1 (q := 60) rfl ?_
    refine zIadd d_X1_add_60 (q := 61) rfl ?_
    refine zPutI d_X1_add_61 ff_X1_24 rfl rfl rfl sh_31 (by decide) (q := 64) rfl ?_
    rw [show (zup (zup (zup (zup I 32 (zup (I 32) k c)) 33 (zup ((zup I 32 (zup (I 32) k c)) 33) k o)) 34 (zup ((zup (zup I 32 (zup (I 32) k c)) 33 (zup ((zup I 32 (zup (I 32) k c)) 33) k o)) 34) k f)) 35 (zup ((zup (zup (zup I 32 (zup (I 32) k c)) 33 (zup ((zup I 32 (zup (I 32) k c)) 33) k o)) 34 (zup ((zup (zup I 32 (zup (I 32) k c)) 33 (zup ((zup I 32 (zup (I 32) k c)) 33) k o)) 34) k f)) 35) k t)) 31 4 = nI k from hk, nI_1]
    refine zAloadN d_X1_add_64 rfl rfl (q := 65) rfl ?_
    refine zAloadN d_X1_add_65 rfl rfl (q := 66) rfl ?_
    refine zGetI d_X1_add_66 ff_X1_24 sh_31 (by decide) (q := 69) rfl ?_
    refine zPutI d_X1_add_69 ff_X1_31 rfl rfl rfl sh_31 (by decide) (q := 72) rfl ?_
    refine zVret d_X1_add_72 rfl rfl ?_
    exact ⟨rfl, by rw [zup_zup, zup_eq]; rfl⟩
  refine zSp_of (lv := [(0, .ref 31), (1, .int c), (2, .int o), (3, .int f), (4, .int t)]) k_X1_add rfl (Nat.le_of_ble_eq_true rfl) ?_
  refine zAloadN d_X1_add_0 rfl rfl (q := 1) rfl ?_
  refine zGetI d_X1_add_1 ff_X1_24 sh_31 (by decide) (q := 4) rfl ?_
  refine zBipush d_X1_add_4 (v := 40) bc_40 (q := 6) rfl ?_
  refine zIcmp_lt d_X1_add_6 (tgt := 13) (q := 9) (by decide) rfl (fun h6 => ?_) (fun h6 => ?_)
  · have hlt : dn < 40 := by rw [hdn] at h6; exact nlt (b := 40) h6
    have e : zChg I dn c o f t = zChgW I dn c o f t := if_neg (by omega)
    rw [e]
    refine zSub [0, 1, 2, 3, 4] rfl ?_
    first | exact tail _ _ hdn hlt | exact tail _ 39 rfl (by decide)
  · have e40 : dn = 40 := by rw [hdn] at h6; have := nnlt (b := 40) h6; omega
    have e : zChg I dn c o f t = zChgW (zForg I) 39 c o f t := if_pos e40
    rw [e]
    refine zAloadN d_X1_add_9 rfl rfl (q := 10) rfl ?_
    refine zCallVV d_X1_add_10 ml_X1_28 k_X1_forgetOldest ki_X1_forgetOldest ks_X1_forgetOldest (sp_X1_forgetOldest (d := d - 1) (by omega)) rfl rfl sh_31 (by decide) rfl (by decide) (Nat.le_of_ble_eq_true rfl) (by decide) (by omega) zns100 (q := 13) rfl (fun w' hw' => ?_)
    subst hw'
    refine zSub [0, 1, 2, 3, 4] rfl ?_
    first | exact tail _ _ hdn hlt | exact tail _ 39 rfl (by decide)
theorem sp_X5_takeOf (hd : 5 ≤ d) (hK : zSky I ns nt nh) : zSp g l d 100 m_X5_takeOf [.ref 36, .ref 1] (zU I L fs) (zV (fun w => w = zU (zTakeI I ns) L fs)) := by
  have hk : ∀ f, zSky (zup I 36 f) ns nt nh := fun f => zSky_up hK (by decide)
  refine zSp_of (lv := [(0, .ref 36), (1, .ref 1)]) k_X5_takeOf rfl (Nat.le_of_ble_eq_true rfl) ?_
  refine zAloadN d_X5_takeOf_0 rfl rfl (q := 1) rfl ?_
  refine zAloadN d_X5_takeOf_1 rfl rfl (q := 2) rfl ?_
  refine zIconst d_X5_takeOf_2 (v := 4) ic_4 (q := 3) rfl ?_
  refine zCallVP d_X5_takeOf_3 ml_X5_15 k_X9_bits ki_X9_bits ks_X9_bits (sp_X9_bits4 (d := d - 1) (by omega) hK) rfl rfl sh_1 (by decide) rfl (by decide) (Nat.le_of_ble_eq_true rfl) (by decide) (by omega) zns100 (q := 6) rfl ?_
  refine zPutI d_X5_takeOf_6 ff_X5_19 rfl rfl rfl sh_36 (by decide) (q := 9) rfl ?_
  refine zAloadN d_X5_takeOf_9 rfl rfl (q := 10) rfl ?_
  refine zAloadN d_X5_takeOf_10 rfl rfl (q := 11) rfl ?_
  refine zIconst d_X5_takeOf_11 (v := 5) ic_5 (q := 12) rfl ?_
  refine zCallVP d_X5_takeOf_12 ml_X5_15 k_X9_bits ki_X9_bits ks_X9_bits (sp_X9_bits5 (d := d - 1) (by omega) (hk _)) rfl rfl sh_1 (by decide) rfl (by decide) (Nat.le_of_ble_eq_true rfl) (by decide) (by omega) zns100 (q := 15) rfl ?_
  refine zPutI d_X5_takeOf_15 ff_X5_23 rfl rfl rfl sh_36 (by decide) (q := 18) rfl ?_
  rw [zup_zup, zup_eq]
  refine zAloadN d_X5_takeOf_18 rfl rfl (q := 19) rfl ?_
  refine zAloadN d_X5_takeOf_19 rfl rfl (q := 20) rfl ?_
  refine zGetI d_X5_takeOf_20 ff_X5_26 sh_1 (by decide) (q := 23) rfl ?_
  refine zPutI d_X5_takeOf_23 ff_X5_29 rfl rfl rfl sh_36 (by decide) (q := 26) rfl ?_
  rw [zup_zup, zup_eq, show (zup I 36 (zup (zup (I 36) 1 (zbits (I 7) ns)) 2 (zbits ((zup I 36 (zup (I 36) 1 (zbits (I 7) ns))) 8) ns))) 1 3 = nI ns from hK.1.1]
  refine zAloadN d_X5_takeOf_26 rfl rfl (q := 27) rfl ?_
  refine zAloadN d_X5_takeOf_27 rfl rfl (q := 28) rfl ?_
  refine zBipush d_X5_takeOf_28 (v := 9) bc_9 (q := 30) rfl ?_
  refine zIconst d_X5_takeOf_30 (v := 0) ic_0 (q := 31) rfl ?_
  refine zCallVP d_X5_takeOf_31 ml_X5_30 k_X9_get ki_X9_get ks_X9_get (sp_get9 (d := d - 1) (by omega) (hk _)) rfl rfl sh_1 (by decide) rfl (by decide) (Nat.le_of_ble_eq_true rfl) (by decide) (by omega) zns100 (q := 34) rfl ?_
  refine zPutI d_X5_takeOf_34 ff_X5_34 rfl rfl rfl sh_36 (by decide) (q := 37) rfl ?_
  rw [zup_zup, zup_eq]
  refine zAloadN d_X5_takeOf_37 rfl rfl (q := 38) rfl ?_
  refine zAloadN d_X5_takeOf_38 rfl rfl (q := 39) rfl ?_
  refine zBipush d_X5_takeOf_39 (v := 11) bc_11 (q := 41) rfl ?_
  refine zIconst d_X5_takeOf_41 (v := 0) ic_0 (q := 42) rfl ?_
  refine zCallVP d_X5_takeOf_42 ml_X5_30 k_X9_get ki_X9_get ks_X9_get (sp_get11 (d := d - 1) (by omega) (hk _)) rfl rfl sh_1 (by decide) rfl (by decide) (Nat.le_of_ble_eq_true rfl) (by decide) (by omega) zns100 (q := 45) rfl ?_
  refine zPutI d_X5_takeOf_45 ff_X5_37 rfl rfl rfl sh_36 (by decide) (q := 48) rfl ?_
  rw [zup_zup, zup_eq]
  refine zAloadN d_X5_takeOf_48 rfl rfl (q := 49) rfl ?_
  refine zGetR d_X5_takeOf_49 ff_X5_40 sh_1 (by decide) r_1_2 (q := 52) rfl ?_
  refine zIconst d_X5_takeOf_52 (v := 0) ic_0 (q := 53) rfl ?_
  refine zAloadN d_X5_takeOf_53 rfl rfl (q := 54) rfl ?_
  refine zGetR d_X5_takeOf_54 ff_X5_9 sh_36 (by decide) r_36_0 (q := 57) rfl ?_
  refine zIconst d_X5_takeOf_57 (v := 0) ic_0 (q := 58) rfl ?_
  refine zIconst d_X5_takeOf_58 (v := 5) ic_5 (q := 59) rfl ?_
  refine zCopyI (i := 0) (j := 0) (k := 5) d_X5_takeOf_59 ml_X5_41 sh_15 (by decide) sh_37 (by decide) rfl rfl rfl (by decide) (by decide) (by omega) (by decide) (q := 62) rfl ?_
  refine zAloadN d_X5_takeOf_62 rfl rfl (q := 63) rfl ?_
  refine zIconst d_X5_takeOf_63 (v := 1) ic_1 (q := 64) rfl ?_
  refine zPutI d_X5_takeOf_64 ff_X5_47 rfl rfl rfl sh_36 (by decide) (q := 67) rfl ?_
  refine zVret d_X5_takeOf_67 rfl rfl ?_
  exact ⟨rfl, by rw [zup_3 (by decide), zup_comm (show (36 : Nat) ≠ 37 by decide)]; rfl⟩
theorem sp_X5_layOn (hd : 4 ≤ d) (hK : zSky I ns nt nh) {ks : Nat} (hks : I 36 3 = nI ks) (hle : ks ≤ ns) : zSp g l d 100 m_X5_layOn [.ref 36, .ref 1] (zU I L fs) (zV (fun w => w = zU (zBackI I ks) L fs)) := by
  have hn := hK.2.1
  have loop : ∀ k, k ≤ ks → ∀ f f2, zBitF (I 36 1) f ks k = zBitF (I 36 1) (I 7) ks 0 → zBitF (I 36 2) f2 ks k = zBitF (I 36 2) (I 8) ks 0 → zA g l d m_X5_layOn (zup (zup I 7 f) 8 f2) L fs 2 [(2, .int (nI k)), (0, .ref 36), (1, .ref 1)] (zV (fun w => w = zU (zBackI I ks) L fs)) := by
    refine zloop ks (fun k hk ih f f2 hx hy => ?_)
    have hK1 : zSky (zup (zup I 7 f) 8 f2) ns nt nh := zSky_up (zSky_up hK (by decide)) (by decide)
    refine zIloadN d_X5_layOn_2 rfl rfl (q := 3) rfl ?_
    refine zAloadN d_X5_layOn_3 rfl rfl (q := 4) rfl ?_
    refine zGetI d_X5_layOn_4 ff_X5_29 sh_36 (by decide) (q := 7) rfl ?_
    refine zIcmp_ge d_X5_layOn_7 (tgt := 44) (q := 10) (by decide) rfl (fun h7 => ?_) (fun h7 => ?_)
    · have e : ks ≤ k := nle (show nI ks ≤ nI k from hks ▸ h7)
      have e1 : f = zBitF (I 36 1) (I 7) ks 0 := by rw [← hx]; unfold zBitF; rw [zfor_end e]
      have e2 : f2 = zBitF (I 36 2) (I 8) ks 0 := by rw [← hy]; unfold zBitF; rw [zfor_end e]
      refine zAloadN d_X5_layOn_44 rfl rfl (q := 45) rfl ?_
      refine zBipush d_X5_layOn_45 (v := 9) bc_9 (q := 47) rfl ?_
      refine zIconst d_X5_layOn_47 (v := 0) ic_0 (q := 48) rfl ?_
      refine zAloadN d_X5_layOn_48 rfl rfl (q := 49) rfl ?_
      refine zGetI d_X5_layOn_49 ff_X5_34 sh_36 (by decide) (q := 52) rfl ?_
      refine zCallVV d_X5_layOn_52 ml_X5_51 k_X9_set ki_X9_set ks_X9_set (sp_set9 (d := d - 1) (by omega) hK1) rfl rfl sh_1 (by decide) rfl (by decide) (Nat.le_of_ble_eq_true rfl) (by decide) (by omega) zns100 (q := 55) rfl (fun w' hw' => ?_)
      subst hw'
      refine zAloadN d_X5_layOn_55 rfl rfl (q := 56) rfl ?_
      refine zBipush d_X5_layOn_56 (v := 11) bc_11 (q := 58) rfl ?_
      refine zIconst d_X5_layOn_58 (v := 0) ic_0 (q := 59) rfl ?_
      refine zAloadN d_X5_layOn_59 rfl rfl (q := 60) rfl ?_
      refine zGetI d_X5_layOn_60 ff_X5_37 sh_36 (by decide) (q := 63) rfl ?_
      refine zCallVV d_X5_layOn_63 ml_X5_51 k_X9_set ki_X9_set ks_X9_set (sp_set11 (d := d - 1) (by omega) (ns := ns) (nt := nt) (nh := nh) (zSky_up hK1 (by decide))) rfl rfl sh_1 (by decide) rfl (by decide) (Nat.le_of_ble_eq_true rfl) (by decide) (by omega) zns100 (q := 66) rfl (fun w' hw' => ?_)
      subst hw'
      refine zAloadN d_X5_layOn_66 rfl rfl (q := 67) rfl ?_
      refine zGetR d_X5_layOn_67 ff_X5_9 sh_36 (by decide) r_36_0 (q := 70) rfl ?_
      refine zIconst d_X5_layOn_70 (v := 0) ic_0 (q := 71) rfl ?_
      refine zAloadN d_X5_layOn_71 rfl rfl (q := 72) rfl ?_
      refine zGetR d_X5_layOn_72 ff_X5_40 sh_1 (by decide) r_1_2 (q := 75) rfl ?_
      refine zIconst d_X5_layOn_75 (v := 0) ic_0 (q := 76) rfl ?_
      refine zIconst d_X5_layOn_76 (v := 5) ic_5 (q := 77) rfl ?_
      refine zCopyI (i := 0) (j := 0) (k := 5) d_X5_layOn_77 ml_X5_41 sh_37 (by decide) sh_15 (by decide) rfl rfl rfl (by decide) (by decide) (by omega) (by decide) (q := 80) rfl ?_
      refine zVret d_X5_layOn_80 rfl rfl ?_
      exact ⟨rfl, by rw [e1, e2]; rfl⟩
    · have hlt : k < ks := nnle (show ¬ nI ks ≤ nI k from hks ▸ h7)
      unfold zBitF at hx hy
      rw [zfor_step hlt] at hx hy
      refine zAloadN d_X5_layOn_10 rfl rfl (q := 11) rfl ?_
      refine zIconst d_X5_layOn_11 (v := 4) ic_4 (q := 12) rfl ?_
      refine zIloadN d_X5_layOn_12 rfl rfl (q := 13) rfl ?_
      refine zAloadN d_X5_layOn_13 rfl rfl (q := 14) rfl ?_
      refine zGetI d_X5_layOn_14 ff_X5_19 sh_36 (by decide) (q := 17) rfl ?_
      refine zIloadN d_X5_layOn_17 rfl rfl (q := 18) rfl ?_
      refine zIshr d_X5_layOn_18 (q := 19) rfl ?_
      refine zIconst d_X5_layOn_19 (v := 1) ic_1 (q := 20) rfl ?_
      refine zIand d_X5_layOn_20 (q := 21) rfl ?_
      refine zCallVV d_X5_layOn_21 ml_X5_51 k_X9_set ki_X9_set ks_X9_set (sp_set4 (d := d - 1) (by omega) hK1 (k := k) (by omega)) rfl rfl sh_1 (by decide) rfl (by decide) (Nat.le_of_ble_eq_true rfl) (by decide) (by omega) zns100 (q := 24) rfl (fun w' hw' => ?_)
      subst hw'
      rw [zup_3 (show (7 : Nat) ≠ 8 by decide), zup_ne (f := zup I 7 f) (show (7 : Nat) ≠ 8 by decide), zup_eq]
      refine zAloadN d_X5_layOn_24 rfl rfl (q := 25) rfl ?_
      refine zIconst d_X5_layOn_25 (v := 5) ic_5 (q := 26) rfl ?_
      refine zIloadN d_X5_layOn_26 rfl rfl (q := 27) rfl ?_
      refine zAloadN d_X5_layOn_27 rfl rfl (q := 28) rfl ?_
      refine zGetI d_X5_layOn_28 ff_X5_23 sh_36 (by decide) (q := 31) rfl ?_
      refine zIloadN d_X5_layOn_31 rfl rfl (q := 32) rfl ?_
      refine zIshr d_X5_layOn_32 (q := 33) rfl ?_
      refine zIconst d_X5_layOn_33 (v := 1) ic_1 (q := 34) rfl ?_
      refine zIand d_X5_layOn_34 (q := 35) rfl ?_
      refine zCallVV d_X5_layOn_35 ml_X5_51 k_X9_set ki_X9_set ks_X9_set (sp_set5 (d := d - 1) (by omega) (ns := ns) (nt := nt) (nh := nh) (zSky_up (zSky_up hK (by decide)) (by decide)) (k := k) (by omega)) rfl rfl sh_1 (by decide) rfl (by decide) (Nat.le_of_ble_eq_true rfl) (by decide) (by omega) zns100 (q := 38) rfl (fun w' hw' => ?_)
      subst hw'
      rw [zup_zup, zup_eq]
      refine zIinc d_X5_layOn_38 rfl (zinc _) (by decide) rfl (q := 41) rfl ?_
      refine zGoto d_X5_layOn_41 (q := 2) (by decide) ?_
      refine zSub [0, 1, 2] rfl ?_
      exact ih hlt _ _ hx hy
  have e0 : zup (zup I 7 (I 7)) 8 (I 8) = I := by rw [zup_self, zup_self]
  have h0 := loop 0 (Nat.zero_le _) (I 7) (I 8) rfl rfl
  rw [e0] at h0
  refine zSp_of (lv := [(0, .ref 36), (1, .ref 1)]) k_X5_layOn rfl (Nat.le_of_ble_eq_true rfl) ?_
  refine zIconst d_X5_layOn_0 (v := 0) ic_0 (q := 1) rfl ?_
  refine zIstoreN d_X5_layOn_1 rfl (by decide) rfl (q := 2) rfl ?_
  refine zSub [0, 1, 2] rfl ?_
  exact h0
end S12
end
section
theorem d_X0_above_0 : decode (zmc m_X0_above) 0 = .ok (.iload_n 0, 1) := by decide +kernel
theorem d_X0_above_1 : decode (zmc m_X0_above) 1 = .ok (.ifCond .lt 17, 3) := by decide +kernel
theorem d_X0_above_4 : decode (zmc m_X0_above) 4 = .ok (.iload_n 0, 1) := by decide +kernel
theorem d_X0_above_5 : decode (zmc m_X0_above) 5 = .ok (.bipush 8, 2) := by decide +kernel
theorem d_X0_above_7 : decode (zmc m_X0_above) 7 = .ok (.if_icmp .ge 11, 3) := by decide +kernel
theorem d_X0_above_10 : decode (zmc m_X0_above) 10 = .ok (.getstatic 26, 3) := by decide +kernel
theorem d_X0_above_13 : decode (zmc m_X0_above) 13 = .ok (.iload_n 0, 1) := by decide +kernel
theorem d_X0_above_14 : decode (zmc m_X0_above) 14 = .ok (.iaload, 1) := by decide +kernel
theorem d_X0_above_15 : decode (zmc m_X0_above) 15 = .ok (.goto 4, 3) := by decide +kernel
theorem d_X0_above_18 : decode (zmc m_X0_above) 18 = .ok (.iconst (-1), 1) := by decide +kernel
theorem d_X0_above_19 : decode (zmc m_X0_above) 19 = .ok (.ireturn, 1) := by decide +kernel
theorem d_X0_add_0 : decode (zmc m_X0_add) 0 = .ok (.iload_n 1, 1) := by decide +kernel
theorem d_X0_add_1 : decode (zmc m_X0_add) 1 = .ok (.ifCond .lt 9, 3) := by decide +kernel
theorem d_X0_add_4 : decode (zmc m_X0_add) 4 = .ok (.iload_n 1, 1) := by decide +kernel
theorem d_X0_add_5 : decode (zmc m_X0_add) 5 = .ok (.bipush 8, 2) := by decide +kernel
theorem d_X0_add_7 : decode (zmc m_X0_add) 7 = .ok (.if_icmp .lt 5, 3) := by decide +kernel
theorem d_X0_add_10 : decode (zmc m_X0_add) 10 = .ok (.iconst (-1), 1) := by decide +kernel
theorem d_X0_add_11 : decode (zmc m_X0_add) 11 = .ok (.ireturn, 1) := by decide +kernel
theorem d_X0_add_12 : decode (zmc m_X0_add) 12 = .ok (.aload_n 0, 1) := by decide +kernel
theorem d_X0_add_13 : decode (zmc m_X0_add) 13 = .ok (.getfield 18, 3) := by decide +kernel
theorem d_X0_add_16 : decode (zmc m_X0_add) 16 = .ok (.bipush 50, 2) := by decide +kernel
theorem d_X0_add_18 : decode (zmc m_X0_add) 18 = .ok (.if_icmp .lt 6, 3) := by decide +kernel
theorem d_X0_add_21 : decode (zmc m_X0_add) 21 = .ok (.bipush (-3), 2) := by decide +kernel
theorem d_X0_add_23 : decode (zmc m_X0_add) 23 = .ok (.ireturn, 1) := by decide +kernel
theorem d_X0_add_24 : decode (zmc m_X0_add) 24 = .ok (.aload_n 0, 1) := by decide +kernel
theorem d_X0_add_25 : decode (zmc m_X0_add) 25 = .ok (.getfield 11, 3) := by decide +kernel
theorem d_X0_add_28 : decode (zmc m_X0_add) 28 = .ok (.aload_n 0, 1) := by decide +kernel
theorem d_X0_add_29 : decode (zmc m_X0_add) 29 = .ok (.getfield 18, 3) := by decide +kernel
theorem d_X0_add_32 : decode (zmc m_X0_add) 32 = .ok (.iload_n 1, 1) := by decide +kernel
theorem d_X0_add_33 : decode (zmc m_X0_add) 33 = .ok (.iastore, 1) := by decide +kernel
theorem d_X0_add_34 : decode (zmc m_X0_add) 34 = .ok (.aload_n 0, 1) := by decide +kernel
theorem d_X0_add_35 : decode (zmc m_X0_add) 35 = .ok (.dup, 1) := by decide +kernel
theorem d_X0_add_36 : decode (zmc m_X0_add) 36 = .ok (.getfield 18, 3) := by decide +kernel
theorem d_X0_add_39 : decode (zmc m_X0_add) 39 = .ok (.iconst 1, 1) := by decide +kernel
theorem d_X0_add_40 : decode (zmc m_X0_add) 40 = .ok (.iadd, 1) := by decide +kernel
theorem d_X0_add_41 : decode (zmc m_X0_add) 41 = .ok (.putfield 18, 3) := by decide +kernel
theorem d_X0_add_44 : decode (zmc m_X0_add) 44 = .ok (.aload_n 0, 1) := by decide +kernel
theorem d_X0_add_45 : decode (zmc m_X0_add) 45 = .ok (.getfield 18, 3) := by decide +kernel
theorem d_X0_add_48 : decode (zmc m_X0_add) 48 = .ok (.iconst 1, 1) := by decide +kernel
theorem d_X0_add_49 : decode (zmc m_X0_add) 49 = .ok (.isub, 1) := by decide +kernel
theorem d_X0_add_50 : decode (zmc m_X0_add) 50 = .ok (.ireturn, 1) := by decide +kernel
theorem d_X0_begin_0 : decode (zmc m_X0_begin) 0 = .ok (.aload_n 0, 1) := by decide +kernel
theorem d_X0_begin_1 : decode (zmc m_X0_begin) 1 = .ok (.getfield 29, 3) := by decide +kernel
theorem d_X0_begin_4 : decode (zmc m_X0_begin) 4 = .ok (.bipush 24, 2) := by decide +kernel
theorem d_X0_begin_6 : decode (zmc m_X0_begin) 6 = .ok (.if_icmp .ge 13, 3) := by decide +kernel
theorem d_X0_begin_9 : decode (zmc m_X0_begin) 9 = .ok (.aload_n 0, 1) := by decide +kernel
theorem d_X0_begin_10 : decode (zmc m_X0_begin) 10 = .ok (.getfield 15, 3) := by decide +kernel
theorem d_X0_begin_13 : decode (zmc m_X0_begin) 13 = .ok (.aload_n 0, 1) := by decide +kernel
theorem d_X0_begin_14 : decode (zmc m_X0_begin) 14 = .ok (.getfield 29, 3) := by decide +kernel
theorem d_X0_begin_17 : decode (zmc m_X0_begin) 17 = .ok (.iload_n 1, 1) := by decide +kernel
theorem d_X0_begin_18 : decode (zmc m_X0_begin) 18 = .ok (.iastore, 1) := by decide +kernel
theorem d_X0_begin_19 : decode (zmc m_X0_begin) 19 = .ok (.aload_n 0, 1) := by decide +kernel
theorem d_X0_begin_20 : decode (zmc m_X0_begin) 20 = .ok (.dup, 1) := by decide +kernel
theorem d_X0_begin_21 : decode (zmc m_X0_begin) 21 = .ok (.getfield 29, 3) := by decide +kernel
theorem d_X0_begin_24 : decode (zmc m_X0_begin) 24 = .ok (.iconst 1, 1) := by decide +kernel
theorem d_X0_begin_25 : decode (zmc m_X0_begin) 25 = .ok (.iadd, 1) := by decide +kernel
theorem d_X0_begin_26 : decode (zmc m_X0_begin) 26 = .ok (.putfield 29, 3) := by decide +kernel
theorem d_X0_begin_29 : decode (zmc m_X0_begin) 29 = .ok (.return_, 1) := by decide +kernel
theorem d_X0_isUnder_0 : decode (zmc m_X0_isUnder) 0 = .ok (.iload_n 0, 1) := by decide +kernel
theorem d_X0_isUnder_1 : decode (zmc m_X0_isUnder) 1 = .ok (.istore_n 2, 1) := by decide +kernel
theorem d_X0_isUnder_2 : decode (zmc m_X0_isUnder) 2 = .ok (.iconst 0, 1) := by decide +kernel
theorem d_X0_isUnder_3 : decode (zmc m_X0_isUnder) 3 = .ok (.istore_n 3, 1) := by decide +kernel
theorem d_X0_isUnder_4 : decode (zmc m_X0_isUnder) 4 = .ok (.iload_n 3, 1) := by decide +kernel
theorem d_X0_isUnder_5 : decode (zmc m_X0_isUnder) 5 = .ok (.bipush 8, 2) := by decide +kernel
theorem d_X0_isUnder_7 : decode (zmc m_X0_isUnder) 7 = .ok (.if_icmp .ge 19, 3) := by decide +kernel
theorem d_X0_isUnder_10 : decode (zmc m_X0_isUnder) 10 = .ok (.iload_n 2, 1) := by decide +kernel
theorem d_X0_isUnder_11 : decode (zmc m_X0_isUnder) 11 = .ok (.iload_n 1, 1) := by decide +kernel
theorem d_X0_isUnder_12 : decode (zmc m_X0_isUnder) 12 = .ok (.if_icmp .eq 14, 3) := by decide +kernel
theorem d_X0_isUnder_15 : decode (zmc m_X0_isUnder) 15 = .ok (.iload_n 2, 1) := by decide +kernel
theorem d_X0_isUnder_16 : decode (zmc m_X0_isUnder) 16 = .ok (.invokestatic 22, 3) := by decide +kernel
theorem d_X0_isUnder_19 : decode (zmc m_X0_isUnder) 19 = .ok (.istore_n 2, 1) := by decide +kernel
theorem d_X0_isUnder_20 : decode (zmc m_X0_isUnder) 20 = .ok (.iinc 3 1, 3) := by decide +kernel
theorem d_X0_isUnder_23 : decode (zmc m_X0_isUnder) 23 = .ok (.goto (-19), 3) := by decide +kernel
theorem d_X0_isUnder_26 : decode (zmc m_X0_isUnder) 26 = .ok (.iload_n 2, 1) := by decide +kernel
theorem d_X0_isUnder_27 : decode (zmc m_X0_isUnder) 27 = .ok (.iload_n 1, 1) := by decide +kernel
theorem d_X0_isUnder_28 : decode (zmc m_X0_isUnder) 28 = .ok (.if_icmp .ne 7, 3) := by decide +kernel
theorem d_X0_isUnder_31 : decode (zmc m_X0_isUnder) 31 = .ok (.iconst 1, 1) := by decide +kernel
theorem d_X0_isUnder_32 : decode (zmc m_X0_isUnder) 32 = .ok (.goto 4, 3) := by decide +kernel
theorem d_X0_isUnder_35 : decode (zmc m_X0_isUnder) 35 = .ok (.iconst 0, 1) := by decide +kernel
theorem d_X0_isUnder_36 : decode (zmc m_X0_isUnder) 36 = .ok (.ireturn, 1) := by decide +kernel
theorem d_X0_kindOf_0 : decode (zmc m_X0_kindOf) 0 = .ok (.iload_n 1, 1) := by decide +kernel
theorem d_X0_kindOf_1 : decode (zmc m_X0_kindOf) 1 = .ok (.ifCond .lt 20, 3) := by decide +kernel
theorem d_X0_kindOf_4 : decode (zmc m_X0_kindOf) 4 = .ok (.iload_n 1, 1) := by decide +kernel
theorem d_X0_kindOf_5 : decode (zmc m_X0_kindOf) 5 = .ok (.aload_n 0, 1) := by decide +kernel
theorem d_X0_kindOf_6 : decode (zmc m_X0_kindOf) 6 = .ok (.getfield 18, 3) := by decide +kernel
theorem d_X0_kindOf_9 : decode (zmc m_X0_kindOf) 9 = .ok (.if_icmp .ge 12, 3) := by decide +kernel
theorem d_X0_kindOf_12 : decode (zmc m_X0_kindOf) 12 = .ok (.aload_n 0, 1) := by decide +kernel
theorem d_X0_kindOf_13 : decode (zmc m_X0_kindOf) 13 = .ok (.getfield 11, 3) := by decide +kernel
theorem d_X0_kindOf_16 : decode (zmc m_X0_kindOf) 16 = .ok (.iload_n 1, 1) := by decide +kernel
theorem d_X0_kindOf_17 : decode (zmc m_X0_kindOf) 17 = .ok (.iaload, 1) := by decide +kernel
theorem d_X0_kindOf_18 : decode (zmc m_X0_kindOf) 18 = .ok (.goto 4, 3) := by decide +kernel
theorem d_X0_kindOf_21 : decode (zmc m_X0_kindOf) 21 = .ok (.iconst (-1), 1) := by decide +kernel
theorem d_X0_kindOf_22 : decode (zmc m_X0_kindOf) 22 = .ok (.ireturn, 1) := by decide +kernel
theorem d_X0_ownOf_0 : decode (zmc m_X0_ownOf) 0 = .ok (.iload_n 0, 1) := by decide +kernel
theorem d_X0_ownOf_1 : decode (zmc m_X0_ownOf) 1 = .ok (.ifCond .lt 22, 3) := by decide +kernel
theorem d_X0_ownOf_4 : decode (zmc m_X0_ownOf) 4 = .ok (.iload_n 0, 1) := by decide +kernel
theorem d_X0_ownOf_5 : decode (zmc m_X0_ownOf) 5 = .ok (.bipush 8, 2) := by decide +kernel
theorem d_X0_ownOf_7 : decode (zmc m_X0_ownOf) 7 = .ok (.if_icmp .ge 16, 3) := by decide +kernel
theorem d_X0_ownOf_10 : decode (zmc m_X0_ownOf) 10 = .ok (.iload_n 1, 1) := by decide +kernel
theorem d_X0_ownOf_11 : decode (zmc m_X0_ownOf) 11 = .ok (.ifCond .lt 12, 3) := by decide +kernel
theorem d_X0_ownOf_14 : decode (zmc m_X0_ownOf) 14 = .ok (.iload_n 1, 1) := by decide +kernel
theorem d_X0_ownOf_15 : decode (zmc m_X0_ownOf) 15 = .ok (.iconst 4, 1) := by decide +kernel
theorem d_X0_ownOf_16 : decode (zmc m_X0_ownOf) 16 = .ok (.if_icmp .ge 7, 3) := by decide +kernel
theorem d_X0_ownOf_19 : decode (zmc m_X0_ownOf) 19 = .ok (.iconst 1, 1) := by decide +kernel
theorem d_X0_ownOf_20 : decode (zmc m_X0_ownOf) 20 = .ok (.goto 4, 3) := by decide +kernel
theorem d_X0_ownOf_23 : decode (zmc m_X0_ownOf) 23 = .ok (.iconst 0, 1) := by decide +kernel
theorem d_X0_ownOf_24 : decode (zmc m_X0_ownOf) 24 = .ok (.istore_n 2, 1) := by decide +kernel
theorem d_X0_ownOf_25 : decode (zmc m_X0_ownOf) 25 = .ok (.iload_n 2, 1) := by decide +kernel
theorem d_X0_ownOf_26 : decode (zmc m_X0_ownOf) 26 = .ok (.ifCond .eq 15, 3) := by decide +kernel
theorem d_X0_ownOf_29 : decode (zmc m_X0_ownOf) 29 = .ok (.getstatic 59, 3) := by decide +kernel
theorem d_X0_ownOf_32 : decode (zmc m_X0_ownOf) 32 = .ok (.iconst 4, 1) := by decide +kernel
theorem d_X0_ownOf_33 : decode (zmc m_X0_ownOf) 33 = .ok (.iload_n 0, 1) := by decide +kernel
theorem d_X0_ownOf_34 : decode (zmc m_X0_ownOf) 34 = .ok (.imul, 1) := by decide +kernel
theorem d_X0_ownOf_35 : decode (zmc m_X0_ownOf) 35 = .ok (.iload_n 1, 1) := by decide +kernel
theorem d_X0_ownOf_36 : decode (zmc m_X0_ownOf) 36 = .ok (.iadd, 1) := by decide +kernel
theorem d_X0_ownOf_37 : decode (zmc m_X0_ownOf) 37 = .ok (.iaload, 1) := by decide +kernel
theorem d_X0_ownOf_38 : decode (zmc m_X0_ownOf) 38 = .ok (.goto 4, 3) := by decide +kernel
theorem d_X0_ownOf_41 : decode (zmc m_X0_ownOf) 41 = .ok (.iconst 0, 1) := by decide +kernel
theorem d_X0_ownOf_42 : decode (zmc m_X0_ownOf) 42 = .ok (.ireturn, 1) := by decide +kernel
theorem d_X0_traced_0 : decode (zmc m_X0_traced) 0 = .ok (.aload_n 0, 1) := by decide +kernel
theorem d_X0_traced_1 : decode (zmc m_X0_traced) 1 = .ok (.getfield 29, 3) := by decide +kernel
theorem d_X0_traced_4 : decode (zmc m_X0_traced) 4 = .ok (.bipush 24, 2) := by decide +kernel
theorem d_X0_traced_6 : decode (zmc m_X0_traced) 6 = .ok (.invokestatic 32, 3) := by decide +kernel
theorem d_X0_traced_9 : decode (zmc m_X0_traced) 9 = .ok (.ireturn, 1) := by decide +kernel
/-! BODIES AND THEIR ACTS -/
def zAbove (k : Int32) : Int32 := if 0 ≤ k ∧ k < 8 then zstv 2 k.toNatClampNeg else -1
def zOwn (k a : Int32) : Int32 := if (0 ≤ k ∧ k < 8) ∧ (0 ≤ a ∧ a < 4) then zstv 3 (4 * k + a).toNatClampNeg else 0
def zKo (I : Nat → Nat → Int32) (b : Int32) : Int32 := if 0 ≤ b ∧ b < I 38 2 then I 39 b.toNatClampNeg else -1
def zRs : Nat → Int32 → Int32 → Int32
  | 0, k, _ => k
  | m + 1, k, a => if zOwn k a = 0 then zRs m (zAbove k) a else k
def zUl : Nat → Int32 → Int32 → Int32
  | 0, k, _ => k
  | m + 1, k, o => if k = o then k else zUl m (zAbove k) o
def zUnd (k o : Int32) : Prop := zUl 8 k o = o
def zTrF (f : Nat → Int32) : Nat → List Int32 → Nat → Int32
  | _, [] => f
  | r, o :: t => zTrF (if r < 24 then zup f r o else f) (r + 1) t
/-- the trace grows by t -/
def zTrI (I : Nat → Nat → Int32) (r : Nat) (t : List Int32) : Nat → Nat → Int32 := zup (zup I 40 (zTrF (I 40) r t)) 38 (zup (I 38) 3 (nI (r + t.length)))
theorem zTrF_app (t u : List Int32) : ∀ (f : Nat → Int32) (r : Nat), zTrF f r (t ++ u) = zTrF (zTrF f r t) (r + t.length) u := by
  induction t with
  | nil => intro f r; rfl
  | cons o t ih =>
    intro f r
    show zTrF (if r < 24 then zup f r o else f) (r + 1) (t ++ u) = zTrF (zTrF (if r < 24 then zup f r o else f) (r + 1) t) (r + (t.length + 1)) u
    rw [ih, Nat.add_assoc, Nat.add_comm 1]
theorem zTrI_app (I : Nat → Nat → Int32) (r : Nat) (t u : List Int32) : zTrI (zTrI I r t) (r + t.length) u = zTrI I r (t ++ u) := by
  unfold zTrI
  rw [zTrF_app, List.length_append, ← Nat.add_assoc]
  rw [zup_eq, zup_zup, zup_ne (f := zup I 40 _) (show (40 : Nat) ≠ 38 by decide), zup_eq]
  rw [zup_3 (show (40 : Nat) ≠ 38 by decide), zup_zup]
theorem zTrI_ko {I : Nat → Nat → Int32} {r : Nat} {t : List Int32} {b : Int32} : zKo (zTrI I r t) b = zKo I b := rfl
def zDs (o : Nat) (n x : Int32) (up : Int32 → Option (Int32 × List Int32)) (vi : Int32 → Int32 → Option (Int32 × List Int32)) : Option (Int32 × List Int32) := match o with
  | 1 => some (x + n, [1])
  | 2 => (vi 1 x).bind fun p => (vi 2 1).bind fun q => some (p.1 - q.1, 2 :: (p.2 ++ q.2))
  | 10 => (vi 0 x).bind fun p => some (p.1 * 2, 10 :: p.2)
  | 11 => some (x ^^^ n, [11])
  | 20 => (up x).bind fun p => some (p.1 + 3, 20 :: p.2)
  | 30 => (up x).bind fun p => some (-p.1, 30 :: p.2)
  | 40 => (up x).bind fun p => some (p.1 * 3, 40 :: p.2)
  | 41 => (up (x + 1)).bind fun p => some (p.1, 41 :: p.2)
  | 50 => (up x).bind fun p => some (p.1 ^^^ 5, 50 :: p.2)
  | 60 => (up x).bind fun p => (vi 0 2).bind fun q => some (p.1 - q.1, 60 :: (p.2 ++ q.2))
  | 61 => (up x).bind fun p => some (p.1 + 1, 61 :: p.2)
  | 70 => (up x).bind fun p => some (p.1 * 2, 70 :: p.2)
  | 80 => (up x).bind fun p => (vi 2 2).bind fun q => some (p.1 + q.1, 80 :: (p.2 ++ q.2))
  | 81 => (up x).bind fun p => some (p.1 - 1, 81 :: p.2)
  | _ => none
/-- an act as a kind does it, of a body whose kind is K: the answer and the bodies that ran -/
def zDo : Nat → Int32 → Int32 → Int32 → Int32 → Int32 → Option (Int32 × List Int32)
  | 0, _, _, _, _, _ => none
  | f + 1, K, k, a, n, x => zDs (zOwn (zRs 8 k a) a).toNatClampNeg n x (fun y => zDo f K (zAbove (zRs 8 k a)) a n y) (fun b y => zDo f K K b n y)
theorem zDo_some {f : Nat} {K k a n x v : Int32} {t : List Int32} (h : zDo (f + 1) K k a n x = some (v, t)) : zOwn (zRs 8 k a) a = 1 ∨ zOwn (zRs 8 k a) a = 2 ∨ zOwn (zRs 8 k a) a = 10 ∨ zOwn (zRs 8 k a) a = 11 ∨ zOwn (zRs 8 k a) a = 20 ∨ zOwn (zRs 8 k a) a = 30 ∨ zOwn (zRs 8 k a) a = 40 ∨ zOwn (zRs 8 k a) a = 41 ∨ zOwn (zRs 8 k a) a = 50 ∨ zOwn (zRs 8 k a) a = 60 ∨ zOwn (zRs 8 k a) a = 61 ∨ zOwn (zRs 8 k a) a = 70 ∨ zOwn (zRs 8 k a) a = 80 ∨ zOwn (zRs 8 k a) a = 81 := by
  have key : ∀ o : Int32, zDs o.toNatClampNeg n x (fun y => zDo f K (zAbove (zRs 8 k a)) a n y) (fun b y => zDo f K K b n y) = some (v, t) → (o = 1 ∨ o = 2 ∨ o = 10 ∨ o = 11 ∨ o = 20 ∨ o = 30 ∨ o = 40 ∨ o = 41 ∨ o = 50 ∨ o = 60 ∨ o = 61 ∨ o = 70 ∨ o = 80 ∨ o = 81) := by
    intro o ho
    have hc : ∀ (j : Nat) (w : Int32), w = nI j → j < 100 → 0 < j → o.toNatClampNeg = j → o = w := by
      intro j w hw hj h0 e
      by_cases q : o < 0
      · have hz : o.toInt < 0 := by simpa using Int32.lt_iff_toInt_lt.mp q
        have h2 : (o.toInt.toNat : Nat) = j := e
        omega
      · obtain ⟨i, hi, rfl⟩ := nI_of q
        rw [zcl_n hi] at e
        rw [hw, e]
    unfold zDs at ho
    split at ho
    next e => exact Or.inl (hc _ _ rfl (by decide) (by decide) e)
    next e => exact Or.inr (Or.inl (hc _ _ rfl (by decide) (by decide) e))
    next e => exact Or.inr (Or.inr (Or.inl (hc _ _ rfl (by decide) (by decide) e)))
    next e => exact Or.inr (Or.inr (Or.inr (Or.inl (hc _ _ rfl (by decide) (by decide) e))))
    next e => exact Or.inr (Or.inr (Or.inr (Or.inr (Or.inl (hc _ _ rfl (by decide) (by decide) e)))))
    next e => exact Or.inr (Or.inr (Or.inr (Or.inr (Or.inr (Or.inl (hc _ _ rfl (by decide) (by decide) e))))))
    next e => exact Or.inr (Or.inr (Or.inr (Or.inr (Or.inr (Or.inr (Or.inl (hc _ _ rfl (by decide) (by decide) e)))))))
    next e => exact Or.inr (Or.inr (Or.inr (Or.inr (Or.inr (Or.inr (Or.inr (Or.inl (hc _ _ rfl (by decide) (by decide) e))))))))
    next e => exact Or.inr (Or.inr (Or.inr (Or.inr (Or.inr (Or.inr (Or.inr (Or.inr (Or.inl (hc _ _ rfl (by decide) (by decide) e)))))))))
    next e => exact Or.inr (Or.inr (Or.inr (Or.inr (Or.inr (Or.inr (Or.inr (Or.inr (Or.inr (Or.inl (hc _ _ rfl (by decide) (by decide) e))))))))))
    next e => exact Or.inr (Or.inr (Or.inr (Or.inr (Or.inr (Or.inr (Or.inr (Or.inr (Or.inr (Or.inr (Or.inl (hc _ _ rfl (by decide) (by decide) e)))))))))))
    next e => exact Or.inr (Or.inr (Or.inr (Or.inr (Or.inr (Or.inr (Or.inr (Or.inr (Or.inr (Or.inr (Or.inr (Or.inl (hc _ _ rfl (by decide) (by decide) e))))))))))))
    next e => exact Or.inr (Or.inr (Or.inr (Or.inr (Or.inr (Or.inr (Or.inr (Or.inr (Or.inr (Or.inr (Or.inr (Or.inr (Or.inl (hc _ _ rfl (by decide) (by decide) e)))))))))))))
    next e => exact Or.inr (Or.inr (Or.inr (Or.inr (Or.inr (Or.inr (Or.inr (Or.inr (Or.inr (Or.inr (Or.inr (Or.inr (Or.inr (hc _ _ rfl (by decide) (by decide) e)))))))))))))
    next => cases ho
  exact key _ h
section S13
variable {g : zG} {l : Launch} {d : Nat} {I : Nat → Nat → Int32} {L : Nat → Nat → Int64} {fs : Nat × Nat × Option Nat}
theorem sp_X0_add (hd : 1 ≤ d) {nb : Nat} (hb : I 38 2 = nI nb) (h50 : nb ≤ 50) {k : Int32} : zSp g l d 100 m_X0_add [.ref 38, .int k] (zU I L fs) (zX (fun x w => (¬ (0 ≤ k ∧ k < 8) ∧ x = -1 ∧ w = zU I L fs) ∨ ((0 ≤ k ∧ k < 8) ∧ nb = 50 ∧ x = -3 ∧ w = zU I L fs) ∨ ((0 ≤ k ∧ k < 8) ∧ nb < 50 ∧ x = nI nb ∧ w = zU (zup (zup I 39 (zup (I 39) nb k)) 38 (zup (I 38) 2 (nI (nb + 1)))) L fs))) := by
  refine zSp_of (lv := [(0, .ref 38), (1, .int k)]) k_X0_add rfl (Nat.le_of_ble_eq_true rfl) ?_
  refine zIloadN d_X0_add_0 rfl rfl (q := 1) rfl ?_
  refine zIf_lt d_X0_add_1 (tgt := 10) (q := 4) (by decide) rfl (fun h1 => ?_) (fun h1 => ?_)
  · refine zIconst d_X0_add_10 (v := -1) ic_m1 (q := 11) rfl ?_
    refine zIret d_X0_add_11 rfl rfl rfl ?_
    exact ⟨_, rfl, Or.inl ⟨by grind, rfl, rfl⟩⟩
  · refine zIloadN d_X0_add_4 rfl rfl (q := 5) rfl ?_
    refine zBipush d_X0_add_5 (v := 8) bc_8 (q := 7) rfl ?_
    refine zIcmp_lt d_X0_add_7 (tgt := 12) (q := 10) (by decide) rfl (fun h7 => ?_) (fun h7 => ?_)
    · refine zAloadN d_X0_add_12 rfl rfl (q := 13) rfl ?_
      refine zGetI d_X0_add_13 ff_X0_18 sh_38 (by decide) (q := 16) rfl ?_
      refine zBipush d_X0_add_16 (v := 50) bc_50 (q := 18) rfl ?_
      refine zIcmp_lt d_X0_add_18 (tgt := 24) (q := 21) (by decide) rfl (fun h18 => ?_) (fun h18 => ?_)
      · have hlt : nb < 50 := by rw [hb] at h18; exact nlt (b := 50) h18
        refine zAloadN d_X0_add_24 rfl rfl (q := 25) rfl ?_
        refine zGetR d_X0_add_25 ff_X0_11 sh_38 (by decide) r_38_0 (q := 28) rfl ?_
        refine zAloadN d_X0_add_28 rfl rfl (q := 29) rfl ?_
        refine zGetI d_X0_add_29 ff_X0_18 sh_38 (by decide) (q := 32) rfl ?_
        refine zIloadN d_X0_add_32 rfl rfl (q := 33) rfl ?_
        refine zIast d_X0_add_33 sh_39 (by decide) hb (by omega) (q := 34) rfl ?_
        refine zAloadN d_X0_add_34 rfl rfl (q := 35) rfl ?_
        refine zDup d_X0_add_35 rfl (q := 36) rfl ?_
        refine zGetI d_X0_add_36 ff_X0_18 sh_38 (by decide) (q := 39) rfl ?_
        refine zIconst d_X0_add_39 (v := 1) ic_1 (q := 40) rfl ?_
        refine zIadd d_X0_add_40 (q := 41) rfl ?_
        refine zPutI d_X0_add_41 ff_X0_18 rfl rfl rfl sh_38 (by decide) (q := 44) rfl ?_
        rw [show (zup I 39 (zup (I 39) nb k)) 38 2 = nI nb from hb, nI_1]
        refine zAloadN d_X0_add_44 rfl rfl (q := 45) rfl ?_
        refine zGetI d_X0_add_45 ff_X0_18 sh_38 (by decide) (q := 48) rfl ?_
        refine zIconst d_X0_add_48 (v := 1) ic_1 (q := 49) rfl ?_
        refine zIsub d_X0_add_49 (q := 50) rfl ?_
        refine zIret d_X0_add_50 rfl rfl rfl ?_
        refine ⟨_, rfl, Or.inr (Or.inr ⟨by grind, hlt, ?_, rfl⟩)⟩
        exact nI_pred nb
      · refine zBipush d_X0_add_21 (v := -3) bc_m3 (q := 23) rfl ?_
        refine zIret d_X0_add_23 rfl rfl rfl ?_
        exact ⟨_, rfl, Or.inr (Or.inl ⟨by grind, by rw [hb] at h18; have := nnlt (b := 50) h18; omega, rfl, rfl⟩)⟩
    · refine zIconst d_X0_add_10 (v := -1) ic_m1 (q := 11) rfl ?_
      refine zIret d_X0_add_11 rfl rfl rfl ?_
      exact ⟨_, rfl, Or.inl ⟨by grind, rfl, rfl⟩⟩
theorem sp_X0_kindOf (hd : 1 ≤ d) {nb : Nat} (hb : I 38 2 = nI nb) (h50 : nb ≤ 50) {b : Int32} : zPure g l d m_X0_kindOf [.ref 38, .int b] I L fs (.int (zKo I b)) := by
  refine zSp_of (lv := [(0, .ref 38), (1, .int b)]) k_X0_kindOf rfl (Nat.le_of_ble_eq_true rfl) ?_
  refine zIloadN d_X0_kindOf_0 rfl rfl (q := 1) rfl ?_
  refine zIf_lt d_X0_kindOf_1 (tgt := 21) (q := 4) (by decide) rfl (fun h1 => ?_) (fun h1 => ?_)
  · refine zIconst d_X0_kindOf_21 (v := -1) ic_m1 (q := 22) rfl ?_
    refine zIret d_X0_kindOf_22 rfl rfl rfl ?_
    exact zPi (by unfold zKo; first | (rw [if_pos ⟨zn_ge (by omega), by rw [hb]; exact (nI_ltI (by omega) (by omega)).mpr hj⟩, zcl_n (by omega)]; done) | (rw [if_neg (fun q => by grind)]))
  · refine zIloadN d_X0_kindOf_4 rfl rfl (q := 5) rfl ?_
    refine zAloadN d_X0_kindOf_5 rfl rfl (q := 6) rfl ?_
    refine zGetI d_X0_kindOf_6 ff_X0_18 sh_38 (by decide) (q := 9) rfl ?_
    refine zIcmp_ge d_X0_kindOf_9 (tgt := 21) (q := 12) (by decide) rfl (fun h9 => ?_) (fun h9 => ?_)
    · refine zIconst d_X0_kindOf_21 (v := -1) ic_m1 (q := 22) rfl ?_
      refine zIret d_X0_kindOf_22 rfl rfl rfl ?_
      exact zPi (by unfold zKo; first | (rw [if_pos ⟨zn_ge (by omega), by rw [hb]; exact (nI_ltI (by omega) (by omega)).mpr hj⟩, zcl_n (by omega)]; done) | (rw [if_neg (fun q => by grind)]))
    · obtain ⟨j, hj, rfl⟩ := zn1 (x := b) (n := nb) (by omega) (by grind) (by rw [hb] at h9; grind)
      refine zAloadN d_X0_kindOf_12 rfl rfl (q := 13) rfl ?_
      refine zGetR d_X0_kindOf_13 ff_X0_11 sh_38 (by decide) r_38_0 (q := 16) rfl ?_
      refine zIloadN d_X0_kindOf_16 rfl rfl (q := 17) rfl ?_
      refine zIald d_X0_kindOf_17 sh_39 (by decide) rfl (by omega) (q := 18) rfl ?_
      refine zGoto d_X0_kindOf_18 (q := 22) (by decide) ?_
      refine zIret d_X0_kindOf_22 rfl rfl rfl ?_
      exact zPi (by unfold zKo; first | (rw [if_pos ⟨zn_ge (by omega), by rw [hb]; exact (nI_ltI (by omega) (by omega)).mpr hj⟩, zcl_n (by omega)]; done) | (rw [if_neg (fun q => by grind)]))
theorem sp_X0_above (hd : 1 ≤ d) {k : Int32} : zPure g l d m_X0_above [.int k] I L fs (.int (zAbove k)) := by
  refine zSp_of (lv := [(0, .int k)]) k_X0_above rfl (Nat.le_of_ble_eq_true rfl) ?_
  refine zIloadN d_X0_above_0 rfl rfl (q := 1) rfl ?_
  refine zIf_lt d_X0_above_1 (tgt := 18) (q := 4) (by decide) rfl (fun h1 => ?_) (fun h1 => ?_)
  · refine zIconst d_X0_above_18 (v := -1) ic_m1 (q := 19) rfl ?_
    refine zIret d_X0_above_19 rfl rfl rfl ?_
    exact zPi (by unfold zAbove; first | (rw [if_pos ⟨zn_ge (by omega), (nI_ltI (b := 8) (by omega) (by omega)).mpr hj⟩, zcl_n (by omega)]; done) | (rw [if_neg (fun q => by grind)]))
  · refine zIloadN d_X0_above_4 rfl rfl (q := 5) rfl ?_
    refine zBipush d_X0_above_5 (v := 8) bc_8 (q := 7) rfl ?_
    refine zIcmp_ge d_X0_above_7 (tgt := 18) (q := 10) (by decide) rfl (fun h7 => ?_) (fun h7 => ?_)
    · refine zIconst d_X0_above_18 (v := -1) ic_m1 (q := 19) rfl ?_
      refine zIret d_X0_above_19 rfl rfl rfl ?_
      exact zPi (by unfold zAbove; first | (rw [if_pos ⟨zn_ge (by omega), (nI_ltI (b := 8) (by omega) (by omega)).mpr hj⟩, zcl_n (by omega)]; done) | (rw [if_neg (fun q => by grind)]))
    · obtain ⟨j, hj, rfl⟩ := zn1 (x := k) (n := 8) (by omega) (by grind) (by have : nI 8 = 8 := rfl; grind)
      refine zGetS2 d_X0_above_10 fl_X0_26 (q := 13) rfl ?_
      refine zIloadN d_X0_above_13 rfl rfl (q := 14) rfl ?_
      refine zSi2 d_X0_above_14 rfl hj (q := 15) rfl ?_
      refine zGoto d_X0_above_15 (q := 19) (by decide) ?_
      refine zIret d_X0_above_19 rfl rfl rfl ?_
      exact zPi (by unfold zAbove; first | (rw [if_pos ⟨zn_ge (by omega), (nI_ltI (b := 8) (by omega) (by omega)).mpr hj⟩, zcl_n (by omega)]; done) | (rw [if_neg (fun q => by grind)]))
theorem sp_X0_ownOf (hd : 1 ≤ d) {k a : Int32} : zPure g l d m_X0_ownOf [.int k, .int a] I L fs (.int (zOwn k a)) := by
  refine zSp_of (lv := [(0, .int k), (1, .int a)]) k_X0_ownOf rfl (Nat.le_of_ble_eq_true rfl) ?_
  refine zIloadN d_X0_ownOf_0 rfl rfl (q := 1) rfl ?_
  refine zIf_lt d_X0_ownOf_1 (tgt := 23) (q := 4) (by decide) rfl (fun h1 => ?_) (fun h1 => ?_)
  · refine zIconst d_X0_ownOf_23 (v := 0) ic_0 (q := 24) rfl ?_
    refine zIstoreN d_X0_ownOf_24 rfl (by decide) rfl (q := 25) rfl ?_
    refine zIloadN d_X0_ownOf_25 rfl rfl (q := 26) rfl ?_
    refine zIf_eq d_X0_ownOf_26 (tgt := 41) (q := 29) (by decide) rfl (fun _ => ?_) (fun h => absurd h (by decide))
    refine zIconst d_X0_ownOf_41 (v := 0) ic_0 (q := 42) rfl ?_
    refine zIret d_X0_ownOf_42 rfl rfl rfl ?_
    exact zPi (by unfold zOwn; first | (rw [if_pos hall, hx, zcl_n (by omega)]; done) | (rw [if_neg (fun q => by grind)]))
  · refine zIloadN d_X0_ownOf_4 rfl rfl (q := 5) rfl ?_
    refine zBipush d_X0_ownOf_5 (v := 8) bc_8 (q := 7) rfl ?_
    refine zIcmp_ge d_X0_ownOf_7 (tgt := 23) (q := 10) (by decide) rfl (fun h7 => ?_) (fun h7 => ?_)
    · refine zIconst d_X0_ownOf_23 (v := 0) ic_0 (q := 24) rfl ?_
      refine zIstoreN d_X0_ownOf_24 rfl (by decide) rfl (q := 25) rfl ?_
      refine zIloadN d_X0_ownOf_25 rfl rfl (q := 26) rfl ?_
      refine zIf_eq d_X0_ownOf_26 (tgt := 41) (q := 29) (by decide) rfl (fun _ => ?_) (fun h => absurd h (by decide))
      refine zIconst d_X0_ownOf_41 (v := 0) ic_0 (q := 42) rfl ?_
      refine zIret d_X0_ownOf_42 rfl rfl rfl ?_
      exact zPi (by unfold zOwn; first | (rw [if_pos hall, hx, zcl_n (by omega)]; done) | (rw [if_neg (fun q => by grind)]))
    · refine zIloadN d_X0_ownOf_10 rfl rfl (q := 11) rfl ?_
      refine zIf_lt d_X0_ownOf_11 (tgt := 23) (q := 14) (by decide) rfl (fun h11 => ?_) (fun h11 => ?_)
      · refine zIconst d_X0_ownOf_23 (v := 0) ic_0 (q := 24) rfl ?_
        refine zIstoreN d_X0_ownOf_24 rfl (by decide) rfl (q := 25) rfl ?_
        refine zIloadN d_X0_ownOf_25 rfl rfl (q := 26) rfl ?_
        refine zIf_eq d_X0_ownOf_26 (tgt := 41) (q := 29) (by decide) rfl (fun _ => ?_) (fun h => absurd h (by decide))
        refine zIconst d_X0_ownOf_41 (v := 0) ic_0 (q := 42) rfl ?_
        refine zIret d_X0_ownOf_42 rfl rfl rfl ?_
        exact zPi (by unfold zOwn; first | (rw [if_pos hall, hx, zcl_n (by omega)]; done) | (rw [if_neg (fun q => by grind)]))
      · refine zIloadN d_X0_ownOf_14 rfl rfl (q := 15) rfl ?_
        refine zIconst d_X0_ownOf_15 (v := 4) ic_4 (q := 16) rfl ?_
        refine zIcmp_ge d_X0_ownOf_16 (tgt := 23) (q := 19) (by decide) rfl (fun h16 => ?_) (fun h16 => ?_)
        · refine zIconst d_X0_ownOf_23 (v := 0) ic_0 (q := 24) rfl ?_
          refine zIstoreN d_X0_ownOf_24 rfl (by decide) rfl (q := 25) rfl ?_
          refine zIloadN d_X0_ownOf_25 rfl rfl (q := 26) rfl ?_
          refine zIf_eq d_X0_ownOf_26 (tgt := 41) (q := 29) (by decide) rfl (fun _ => ?_) (fun h => absurd h (by decide))
          refine zIconst d_X0_ownOf_41 (v := 0) ic_0 (q := 42) rfl ?_
          refine zIret d_X0_ownOf_42 rfl rfl rfl ?_
          exact zPi (by unfold zOwn; first | (rw [if_pos hall, hx, zcl_n (by omega)]; done) | (rw [if_neg (fun q => by grind)]))
        · obtain ⟨i, hi, hk⟩ := zn1 (x := k) (n := 8) (by omega) (by grind) (by have : nI 8 = 8 := rfl; grind)
          obtain ⟨j, hj, ha⟩ := zn1 (x := a) (n := 4) (by omega) (by grind) (by have : nI 4 = 4 := rfl; grind)
          have hx : (4 : Int32) * k + a = nI (4 * i + j) := by rw [hk, ha, ← nI_add, ← pk_mul]; rfl
          have hall : (0 ≤ k ∧ k < 8) ∧ (0 ≤ a ∧ a < 4) := by grind
          refine zIconst d_X0_ownOf_19 (v := 1) ic_1 (q := 20) rfl ?_
          refine zGoto d_X0_ownOf_20 (q := 24) (by decide) ?_
          refine zIstoreN d_X0_ownOf_24 rfl (by decide) rfl (q := 25) rfl ?_
          refine zIloadN d_X0_ownOf_25 rfl rfl (q := 26) rfl ?_
          refine zIf_eq d_X0_ownOf_26 (tgt := 41) (q := 29) (by decide) rfl (fun h => absurd h (by decide)) (fun _ => ?_)
          refine zGetS3 d_X0_ownOf_29 fl_X0_59 (q := 32) rfl ?_
          refine zIconst d_X0_ownOf_32 (v := 4) ic_4 (q := 33) rfl ?_
          refine zIloadN d_X0_ownOf_33 rfl rfl (q := 34) rfl ?_
          refine zImul d_X0_ownOf_34 (q := 35) rfl ?_
          refine zIloadN d_X0_ownOf_35 rfl rfl (q := 36) rfl ?_
          refine zIadd d_X0_ownOf_36 (q := 37) rfl ?_
          refine zSi3 d_X0_ownOf_37 hx (by omega) (q := 38) rfl ?_
          refine zGoto d_X0_ownOf_38 (q := 42) (by decide) ?_
          refine zIret d_X0_ownOf_42 rfl rfl rfl ?_
          exact zPi (by unfold zOwn; first | (rw [if_pos hall, hx, zcl_n (by omega)]; done) | (rw [if_neg (fun q => by grind)]))
theorem sp_X0_traced (hd : 1 ≤ d) : zPure g l d m_X0_traced [.ref 38] I L fs (.int (if 24 < I 38 3 then 24 else I 38 3)) := by
  refine zSp_of (lv := [(0, .ref 38)]) k_X0_traced rfl (Nat.le_of_ble_eq_true rfl) ?_
  refine zAloadN d_X0_traced_0 rfl rfl (q := 1) rfl ?_
  refine zGetI d_X0_traced_1 ff_X0_29 sh_38 (by decide) (q := 4) rfl ?_
  refine zBipush d_X0_traced_4 (v := 24) bc_24 (q := 6) rfl ?_
  refine zMin d_X0_traced_6 ml_X0_32 (by omega) (Nat.le_of_ble_eq_true rfl) ⟨Nat.le_refl _, Nat.le_refl _⟩ (q := 9) rfl ?_
  refine zIret d_X0_traced_9 rfl rfl rfl ?_
  exact zPi (by grind)
theorem sp_X0_isUnder (hd : 2 ≤ d) {k o : Int32} : zSp g l d 100 m_X0_isUnder [.int k, .int o] (zU I L fs) (zP (.int (if zUl 8 k o = o then 1 else 0)) (zU I L fs)) := by
  have loop : ∀ i, i ≤ 8 → ∀ c, zUl (8 - i) c o = zUl 8 k o → zA g l d m_X0_isUnder I L fs 4 [(3, .int (nI i)), (2, .int c), (0, .int k), (1, .int o)] (zP (.int (if zUl 8 k o = o then 1 else 0)) (zU I L fs)) := by
    refine zloop 8 (fun i hi ih c hx => ?_)
    refine zIloadN d_X0_isUnder_4 rfl rfl (q := 5) rfl ?_
    refine zBipush d_X0_isUnder_5 (v := 8) bc_8 (q := 7) rfl ?_
    refine zIcmp_ge d_X0_isUnder_7 (tgt := 26) (q := 10) (by decide) rfl (fun h7 => ?_) (fun h7 => ?_)
    · have e : i = 8 := by have := nle (b := 8) h7; omega
      subst e
      have hx : c = zUl 8 k o := hx
      refine zIloadN d_X0_isUnder_26 rfl rfl (q := 27) rfl ?_
      refine zIloadN d_X0_isUnder_27 rfl rfl (q := 28) rfl ?_
      refine zIcmp_ne d_X0_isUnder_28 (tgt := 35) (q := 31) (by decide) rfl (fun h28 => ?_) (fun h28 => ?_)
      · refine zIconst d_X0_isUnder_35 (v := 0) ic_0 (q := 36) rfl ?_
        refine zIret d_X0_isUnder_36 rfl rfl rfl ?_
        exact zPi (by rw [← hx]; first | rw [if_pos h28] | rw [if_neg h28] | rw [if_pos (Decidable.not_not.mp h28)])
      · refine zIconst d_X0_isUnder_31 (v := 1) ic_1 (q := 32) rfl ?_
        refine zGoto d_X0_isUnder_32 (q := 36) (by decide) ?_
        refine zIret d_X0_isUnder_36 rfl rfl rfl ?_
        exact zPi (by rw [← hx]; first | rw [if_pos h28] | rw [if_neg h28] | rw [if_pos (Decidable.not_not.mp h28)])
    · have hlt := nnle (b := 8) h7
      obtain ⟨m, hm⟩ : ∃ m, 8 - i = m + 1 := ⟨8 - i - 1, by omega⟩
      have hm2 : 8 - (i + 1) = m := by omega
      rw [hm] at hx
      refine zIloadN d_X0_isUnder_10 rfl rfl (q := 11) rfl ?_
      refine zIloadN d_X0_isUnder_11 rfl rfl (q := 12) rfl ?_
      refine zIcmp_eq d_X0_isUnder_12 (tgt := 26) (q := 15) (by decide) rfl (fun h12 => ?_) (fun h12 => ?_)
      · have hx : c = zUl 8 k o := by rw [← hx]; exact (if_pos h12).symm
        refine zIloadN d_X0_isUnder_26 rfl rfl (q := 27) rfl ?_
        refine zIloadN d_X0_isUnder_27 rfl rfl (q := 28) rfl ?_
        refine zIcmp_ne d_X0_isUnder_28 (tgt := 35) (q := 31) (by decide) rfl (fun h28 => ?_) (fun h28 => ?_)
        · refine zIconst d_X0_isUnder_35 (v := 0) ic_0 (q := 36) rfl ?_
          refine zIret d_X0_isUnder_36 rfl rfl rfl ?_
          exact zPi (by rw [← hx]; first | rw [if_pos h28] | rw [if_neg h28] | rw [if_pos (Decidable.not_not.mp h28)])
        · refine zIconst d_X0_isUnder_31 (v := 1) ic_1 (q := 32) rfl ?_
          refine zGoto d_X0_isUnder_32 (q := 36) (by decide) ?_
          refine zIret d_X0_isUnder_36 rfl rfl rfl ?_
          exact zPi (by rw [← hx]; first | rw [if_pos h28] | rw [if_neg h28] | rw [if_pos (Decidable.not_not.mp h28)])
      · refine zIloadN d_X0_isUnder_15 rfl rfl (q := 16) rfl ?_
        refine zCallSP d_X0_isUnder_16 ml_X0_22 k_X0_above kt_X0_above (sp_X0_above (d := d - 1) (by omega) ) rfl rfl (Nat.le_of_ble_eq_true rfl) (by decide) (by omega) zns100 (q := 19) rfl ?_
        refine zIstoreN d_X0_isUnder_19 rfl (by decide) rfl (q := 20) rfl ?_
        refine zIinc d_X0_isUnder_20 rfl (zinc _) (by decide) rfl (q := 23) rfl ?_
        refine zGoto d_X0_isUnder_23 (q := 4) (by decide) ?_
        refine zSub [0, 1, 2, 3] rfl ?_
        exact ih hlt _ (by rw [hm2, ← hx]; exact (if_neg h12).symm)
  refine zSp_of (lv := [(0, .int k), (1, .int o)]) k_X0_isUnder rfl (Nat.le_of_ble_eq_true rfl) ?_
  refine zIloadN d_X0_isUnder_0 rfl rfl (q := 1) rfl ?_
  refine zIstoreN d_X0_isUnder_1 rfl (by decide) rfl (q := 2) rfl ?_
  refine zIconst d_X0_isUnder_2 (v := 0) ic_0 (q := 3) rfl ?_
  refine zIstoreN d_X0_isUnder_3 rfl (by decide) rfl (q := 4) rfl ?_
  refine zSub [0, 1, 2, 3] rfl ?_
  exact loop 0 (Nat.zero_le _) k rfl
theorem sp_X0_begin (hd : 1 ≤ d) {r : Nat} (hr : I 38 3 = nI r) (h : r < 1000000) {o : Int32} : zSp g l d 100 m_X0_begin [.ref 38, .int o] (zU I L fs) (zV (fun w => w = zU (zTrI I r [o]) L fs)) := by
  refine zSp_of (lv := [(0, .ref 38), (1, .int o)]) k_X0_begin rfl (Nat.le_of_ble_eq_true rfl) ?_
  refine zAloadN d_X0_begin_0 rfl rfl (q := 1) rfl ?_
  refine zGetI d_X0_begin_1 ff_X0_29 sh_38 (by decide) (q := 4) rfl ?_
  refine zBipush d_X0_begin_4 (v := 24) bc_24 (q := 6) rfl ?_
  refine zIcmp_ge d_X0_begin_6 (tgt := 19) (q := 9) (by decide) rfl (fun h6 => ?_) (fun h6 => ?_)
  · have e : ¬ r < 24 := by rw [hr] at h6; have := nle (b := 24) h6; omega
    have ef : zTrF (I 40) r [o] = I 40 := by show (if r < 24 then zup (I 40) r o else I 40) = I 40; rw [if_neg e]
    refine zAloadN d_X0_begin_19 rfl rfl (q := 20) rfl ?_
    refine zDup d_X0_begin_20 rfl (q := 21) rfl ?_
    refine zGetI d_X0_begin_21 ff_X0_29 sh_38 (by decide) (q := 24) rfl ?_
    refine zIconst d_X0_begin_24 (v := 1) ic_1 (q := 25) rfl ?_
    refine zIadd d_X0_begin_25 (q := 26) rfl ?_
    refine zPutI d_X0_begin_26 ff_X0_29 rfl rfl rfl sh_38 (by decide) (q := 29) rfl ?_
    refine zVret d_X0_begin_29 rfl rfl ?_
    refine ⟨rfl, ?_⟩
    unfold zTrI
    rw [ef, List.length_singleton, ← nI_1, ← hr]
    first | rfl | (rw [zup_self]; done)
  · have e : r < 24 := by rw [hr] at h6; exact nnle (b := 24) h6
    have ef : zTrF (I 40) r [o] = zup (I 40) r o := by show (if r < 24 then zup (I 40) r o else I 40) = _; rw [if_pos e]
    refine zAloadN d_X0_begin_9 rfl rfl (q := 10) rfl ?_
    refine zGetR d_X0_begin_10 ff_X0_15 sh_38 (by decide) r_38_1 (q := 13) rfl ?_
    refine zAloadN d_X0_begin_13 rfl rfl (q := 14) rfl ?_
    refine zGetI d_X0_begin_14 ff_X0_29 sh_38 (by decide) (q := 17) rfl ?_
    refine zIloadN d_X0_begin_17 rfl rfl (q := 18) rfl ?_
    refine zIast d_X0_begin_18 sh_40 (by decide) hr (by omega) (q := 19) rfl ?_
    refine zAloadN d_X0_begin_19 rfl rfl (q := 20) rfl ?_
    refine zDup d_X0_begin_20 rfl (q := 21) rfl ?_
    refine zGetI d_X0_begin_21 ff_X0_29 sh_38 (by decide) (q := 24) rfl ?_
    refine zIconst d_X0_begin_24 (v := 1) ic_1 (q := 25) rfl ?_
    refine zIadd d_X0_begin_25 (q := 26) rfl ?_
    refine zPutI d_X0_begin_26 ff_X0_29 rfl rfl rfl sh_38 (by decide) (q := 29) rfl ?_
    refine zVret d_X0_begin_29 rfl rfl ?_
    refine ⟨rfl, ?_⟩
    unfold zTrI
    rw [ef, List.length_singleton, ← nI_1, ← hr]
    first | rfl | (rw [zup_self]; done)
end S13
end
section
theorem d_X0_actOf_0 : decode (zmc m_X0_actOf) 0 = .ok (.aload_n 0, 1) := by decide +kernel
theorem d_X0_actOf_1 : decode (zmc m_X0_actOf) 1 = .ok (.iconst 0, 1) := by decide +kernel
theorem d_X0_actOf_2 : decode (zmc m_X0_actOf) 2 = .ok (.putfield 29, 3) := by decide +kernel
theorem d_X0_actOf_5 : decode (zmc m_X0_actOf) 5 = .ok (.aload_n 0, 1) := by decide +kernel
theorem d_X0_actOf_6 : decode (zmc m_X0_actOf) 6 = .ok (.iload_n 1, 1) := by decide +kernel
theorem d_X0_actOf_7 : decode (zmc m_X0_actOf) 7 = .ok (.invokevirtual 38, 3) := by decide +kernel
theorem d_X0_actOf_10 : decode (zmc m_X0_actOf) 10 = .ok (.ifCond .lt 12, 3) := by decide +kernel
theorem d_X0_actOf_13 : decode (zmc m_X0_actOf) 13 = .ok (.iload_n 2, 1) := by decide +kernel
theorem d_X0_actOf_14 : decode (zmc m_X0_actOf) 14 = .ok (.ifCond .lt 8, 3) := by decide +kernel
theorem d_X0_actOf_17 : decode (zmc m_X0_actOf) 17 = .ok (.iload_n 2, 1) := by decide +kernel
theorem d_X0_actOf_18 : decode (zmc m_X0_actOf) 18 = .ok (.iconst 4, 1) := by decide +kernel
theorem d_X0_actOf_19 : decode (zmc m_X0_actOf) 19 = .ok (.if_icmp .lt 5, 3) := by decide +kernel
theorem d_X0_actOf_22 : decode (zmc m_X0_actOf) 22 = .ok (.iconst 0, 1) := by decide +kernel
theorem d_X0_actOf_23 : decode (zmc m_X0_actOf) 23 = .ok (.ireturn, 1) := by decide +kernel
theorem d_X0_actOf_24 : decode (zmc m_X0_actOf) 24 = .ok (.aload_n 0, 1) := by decide +kernel
theorem d_X0_actOf_25 : decode (zmc m_X0_actOf) 25 = .ok (.iload_n 1, 1) := by decide +kernel
theorem d_X0_actOf_26 : decode (zmc m_X0_actOf) 26 = .ok (.iload_n 2, 1) := by decide +kernel
theorem d_X0_actOf_27 : decode (zmc m_X0_actOf) 27 = .ok (.iload_n 3, 1) := by decide +kernel
theorem d_X0_actOf_28 : decode (zmc m_X0_actOf) 28 = .ok (.iconst 0, 1) := by decide +kernel
theorem d_X0_actOf_29 : decode (zmc m_X0_actOf) 29 = .ok (.invokevirtual 41, 3) := by decide +kernel
theorem d_X0_actOf_32 : decode (zmc m_X0_actOf) 32 = .ok (.ireturn, 1) := by decide +kernel
theorem d_X0_done_0 : decode (zmc m_X0_done) 0 = .ok (.aload_n 0, 1) := by decide +kernel
theorem d_X0_done_1 : decode (zmc m_X0_done) 1 = .ok (.aload_n 0, 1) := by decide +kernel
theorem d_X0_done_2 : decode (zmc m_X0_done) 2 = .ok (.iload_n 1, 1) := by decide +kernel
theorem d_X0_done_3 : decode (zmc m_X0_done) 3 = .ok (.invokevirtual 38, 3) := by decide +kernel
theorem d_X0_done_6 : decode (zmc m_X0_done) 6 = .ok (.iload_n 1, 1) := by decide +kernel
theorem d_X0_done_7 : decode (zmc m_X0_done) 7 = .ok (.iload_n 2, 1) := by decide +kernel
theorem d_X0_done_8 : decode (zmc m_X0_done) 8 = .ok (.iload_n 3, 1) := by decide +kernel
theorem d_X0_done_9 : decode (zmc m_X0_done) 9 = .ok (.iload 4, 2) := by decide +kernel
theorem d_X0_done_11 : decode (zmc m_X0_done) 11 = .ok (.invokevirtual 45, 3) := by decide +kernel
theorem d_X0_done_14 : decode (zmc m_X0_done) 14 = .ok (.ireturn, 1) := by decide +kernel
theorem d_X0_doneAbove_0 : decode (zmc m_X0_doneAbove) 0 = .ok (.aload_n 0, 1) := by decide +kernel
theorem d_X0_doneAbove_1 : decode (zmc m_X0_doneAbove) 1 = .ok (.iload_n 1, 1) := by decide +kernel
theorem d_X0_doneAbove_2 : decode (zmc m_X0_doneAbove) 2 = .ok (.invokestatic 22, 3) := by decide +kernel
theorem d_X0_doneAbove_5 : decode (zmc m_X0_doneAbove) 5 = .ok (.iload_n 2, 1) := by decide +kernel
theorem d_X0_doneAbove_6 : decode (zmc m_X0_doneAbove) 6 = .ok (.iload_n 3, 1) := by decide +kernel
theorem d_X0_doneAbove_7 : decode (zmc m_X0_doneAbove) 7 = .ok (.iload 4, 2) := by decide +kernel
theorem d_X0_doneAbove_9 : decode (zmc m_X0_doneAbove) 9 = .ok (.iload 5, 2) := by decide +kernel
theorem d_X0_doneAbove_11 : decode (zmc m_X0_doneAbove) 11 = .ok (.invokevirtual 45, 3) := by decide +kernel
theorem d_X0_doneAbove_14 : decode (zmc m_X0_doneAbove) 14 = .ok (.ireturn, 1) := by decide +kernel
theorem d_X0_doneAs_0 : decode (zmc m_X0_doneAs) 0 = .ok (.iload_n 1, 1) := by decide +kernel
theorem d_X0_doneAs_1 : decode (zmc m_X0_doneAs) 1 = .ok (.istore 6, 2) := by decide +kernel
theorem d_X0_doneAs_3 : decode (zmc m_X0_doneAs) 3 = .ok (.iconst 0, 1) := by decide +kernel
theorem d_X0_doneAs_4 : decode (zmc m_X0_doneAs) 4 = .ok (.istore 7, 2) := by decide +kernel
theorem d_X0_doneAs_6 : decode (zmc m_X0_doneAs) 6 = .ok (.iload 7, 2) := by decide +kernel
theorem d_X0_doneAs_8 : decode (zmc m_X0_doneAs) 8 = .ok (.bipush 8, 2) := by decide +kernel
theorem d_X0_doneAs_10 : decode (zmc m_X0_doneAs) 10 = .ok (.if_icmp .ge 25, 3) := by decide +kernel
theorem d_X0_doneAs_13 : decode (zmc m_X0_doneAs) 13 = .ok (.iload 6, 2) := by decide +kernel
theorem d_X0_doneAs_15 : decode (zmc m_X0_doneAs) 15 = .ok (.iload_n 3, 1) := by decide +kernel
theorem d_X0_doneAs_16 : decode (zmc m_X0_doneAs) 16 = .ok (.invokestatic 49, 3) := by decide +kernel
theorem d_X0_doneAs_19 : decode (zmc m_X0_doneAs) 19 = .ok (.ifCond .ne 16, 3) := by decide +kernel
theorem d_X0_doneAs_22 : decode (zmc m_X0_doneAs) 22 = .ok (.iload 6, 2) := by decide +kernel
theorem d_X0_doneAs_24 : decode (zmc m_X0_doneAs) 24 = .ok (.invokestatic 22, 3) := by decide +kernel
theorem d_X0_doneAs_27 : decode (zmc m_X0_doneAs) 27 = .ok (.istore 6, 2) := by decide +kernel
theorem d_X0_doneAs_29 : decode (zmc m_X0_doneAs) 29 = .ok (.iinc 7 1, 3) := by decide +kernel
theorem d_X0_doneAs_32 : decode (zmc m_X0_doneAs) 32 = .ok (.goto (-26), 3) := by decide +kernel
theorem d_X0_doneAs_35 : decode (zmc m_X0_doneAs) 35 = .ok (.iload 6, 2) := by decide +kernel
theorem d_X0_doneAs_37 : decode (zmc m_X0_doneAs) 37 = .ok (.iload_n 3, 1) := by decide +kernel
theorem d_X0_doneAs_38 : decode (zmc m_X0_doneAs) 38 = .ok (.invokestatic 49, 3) := by decide +kernel
theorem d_X0_doneAs_41 : decode (zmc m_X0_doneAs) 41 = .ok (.istore 7, 2) := by decide +kernel
theorem d_X0_doneAs_43 : decode (zmc m_X0_doneAs) 43 = .ok (.iload 7, 2) := by decide +kernel
theorem d_X0_doneAs_45 : decode (zmc m_X0_doneAs) 45 = .ok (.ifCond .eq 10, 3) := by decide +kernel
theorem d_X0_doneAs_48 : decode (zmc m_X0_doneAs) 48 = .ok (.iload 5, 2) := by decide +kernel
theorem d_X0_doneAs_50 : decode (zmc m_X0_doneAs) 50 = .ok (.bipush 40, 2) := by decide +kernel
theorem d_X0_doneAs_52 : decode (zmc m_X0_doneAs) 52 = .ok (.if_icmp .le 5, 3) := by decide +kernel
theorem d_X0_doneAs_55 : decode (zmc m_X0_doneAs) 55 = .ok (.iconst 0, 1) := by decide +kernel
theorem d_X0_doneAs_56 : decode (zmc m_X0_doneAs) 56 = .ok (.ireturn, 1) := by decide +kernel
theorem d_X0_doneAs_57 : decode (zmc m_X0_doneAs) 57 = .ok (.aload_n 0, 1) := by decide +kernel
theorem d_X0_doneAs_58 : decode (zmc m_X0_doneAs) 58 = .ok (.iload 7, 2) := by decide +kernel
theorem d_X0_doneAs_60 : decode (zmc m_X0_doneAs) 60 = .ok (.invokevirtual 52, 3) := by decide +kernel
theorem d_X0_doneAs_63 : decode (zmc m_X0_doneAs) 63 = .ok (.iload 5, 2) := by decide +kernel
theorem d_X0_doneAs_65 : decode (zmc m_X0_doneAs) 65 = .ok (.iconst 1, 1) := by decide +kernel
theorem d_X0_doneAs_66 : decode (zmc m_X0_doneAs) 66 = .ok (.iadd, 1) := by decide +kernel
theorem d_X0_doneAs_67 : decode (zmc m_X0_doneAs) 67 = .ok (.istore 8, 2) := by decide +kernel
theorem d_X0_doneAs_69 : decode (zmc m_X0_doneAs) 69 = .ok (.iload 7, 2) := by decide +kernel
theorem d_X0_doneAs_71 : decode (zmc m_X0_doneAs) 71 = .ok (.lookupswitch 330 #[(1, 121), (2, 126), (10, 147), (11, 160), (20, 165), (30, 180), (40, 194), (41, 209), (50, 224), (60, 239), (61, 262), (70, 277), (80, 292), (81, 315)], 121) := by decide +kernel
theorem d_X0_doneAs_192 : decode (zmc m_X0_doneAs) 192 = .ok (.iload 4, 2) := by decide +kernel
theorem d_X0_doneAs_194 : decode (zmc m_X0_doneAs) 194 = .ok (.iload_n 2, 1) := by decide +kernel
theorem d_X0_doneAs_195 : decode (zmc m_X0_doneAs) 195 = .ok (.iadd, 1) := by decide +kernel
theorem d_X0_doneAs_196 : decode (zmc m_X0_doneAs) 196 = .ok (.ireturn, 1) := by decide +kernel
theorem d_X0_doneAs_197 : decode (zmc m_X0_doneAs) 197 = .ok (.aload_n 0, 1) := by decide +kernel
theorem d_X0_doneAs_198 : decode (zmc m_X0_doneAs) 198 = .ok (.iload_n 2, 1) := by decide +kernel
theorem d_X0_doneAs_199 : decode (zmc m_X0_doneAs) 199 = .ok (.iconst 1, 1) := by decide +kernel
theorem d_X0_doneAs_200 : decode (zmc m_X0_doneAs) 200 = .ok (.iload 4, 2) := by decide +kernel
theorem d_X0_doneAs_202 : decode (zmc m_X0_doneAs) 202 = .ok (.iload 8, 2) := by decide +kernel
theorem d_X0_doneAs_204 : decode (zmc m_X0_doneAs) 204 = .ok (.invokevirtual 41, 3) := by decide +kernel
theorem d_X0_doneAs_207 : decode (zmc m_X0_doneAs) 207 = .ok (.aload_n 0, 1) := by decide +kernel
theorem d_X0_doneAs_208 : decode (zmc m_X0_doneAs) 208 = .ok (.iload_n 2, 1) := by decide +kernel
theorem d_X0_doneAs_209 : decode (zmc m_X0_doneAs) 209 = .ok (.iconst 2, 1) := by decide +kernel
theorem d_X0_doneAs_210 : decode (zmc m_X0_doneAs) 210 = .ok (.iconst 1, 1) := by decide +kernel
theorem d_X0_doneAs_211 : decode (zmc m_X0_doneAs) 211 = .ok (.iload 8, 2) := by decide +kernel
theorem d_X0_doneAs_213 : decode (zmc m_X0_doneAs) 213 = .ok (.invokevirtual 41, 3) := by decide +kernel
theorem d_X0_doneAs_216 : decode (zmc m_X0_doneAs) 216 = .ok (.isub, 1) := by decide +kernel
theorem d_X0_doneAs_217 : decode (zmc m_X0_doneAs) 217 = .ok (.ireturn, 1) := by decide +kernel
theorem d_X0_doneAs_218 : decode (zmc m_X0_doneAs) 218 = .ok (.aload_n 0, 1) := by decide +kernel
theorem d_X0_doneAs_219 : decode (zmc m_X0_doneAs) 219 = .ok (.iload_n 2, 1) := by decide +kernel
theorem d_X0_doneAs_220 : decode (zmc m_X0_doneAs) 220 = .ok (.iconst 0, 1) := by decide +kernel
theorem d_X0_doneAs_221 : decode (zmc m_X0_doneAs) 221 = .ok (.iload 4, 2) := by decide +kernel
theorem d_X0_doneAs_223 : decode (zmc m_X0_doneAs) 223 = .ok (.iload 8, 2) := by decide +kernel
theorem d_X0_doneAs_225 : decode (zmc m_X0_doneAs) 225 = .ok (.invokevirtual 41, 3) := by decide +kernel
theorem d_X0_doneAs_228 : decode (zmc m_X0_doneAs) 228 = .ok (.iconst 2, 1) := by decide +kernel
theorem d_X0_doneAs_229 : decode (zmc m_X0_doneAs) 229 = .ok (.imul, 1) := by decide +kernel
theorem d_X0_doneAs_230 : decode (zmc m_X0_doneAs) 230 = .ok (.ireturn, 1) := by decide +kernel
theorem d_X0_doneAs_231 : decode (zmc m_X0_doneAs) 231 = .ok (.iload 4, 2) := by decide +kernel
theorem d_X0_doneAs_233 : decode (zmc m_X0_doneAs) 233 = .ok (.iload_n 2, 1) := by decide +kernel
theorem d_X0_doneAs_234 : decode (zmc m_X0_doneAs) 234 = .ok (.ixor, 1) := by decide +kernel
theorem d_X0_doneAs_235 : decode (zmc m_X0_doneAs) 235 = .ok (.ireturn, 1) := by decide +kernel
theorem d_X0_doneAs_236 : decode (zmc m_X0_doneAs) 236 = .ok (.aload_n 0, 1) := by decide +kernel
theorem d_X0_doneAs_237 : decode (zmc m_X0_doneAs) 237 = .ok (.iload 6, 2) := by decide +kernel
theorem d_X0_doneAs_239 : decode (zmc m_X0_doneAs) 239 = .ok (.iload_n 2, 1) := by decide +kernel
theorem d_X0_doneAs_240 : decode (zmc m_X0_doneAs) 240 = .ok (.iload_n 3, 1) := by decide +kernel
theorem d_X0_doneAs_241 : decode (zmc m_X0_doneAs) 241 = .ok (.iload 4, 2) := by decide +kernel
theorem d_X0_doneAs_243 : decode (zmc m_X0_doneAs) 243 = .ok (.iload 8, 2) := by decide +kernel
theorem d_X0_doneAs_245 : decode (zmc m_X0_doneAs) 245 = .ok (.invokevirtual 56, 3) := by decide +kernel
theorem d_X0_doneAs_248 : decode (zmc m_X0_doneAs) 248 = .ok (.iconst 3, 1) := by decide +kernel
theorem d_X0_doneAs_249 : decode (zmc m_X0_doneAs) 249 = .ok (.iadd, 1) := by decide +kernel
theorem d_X0_doneAs_250 : decode (zmc m_X0_doneAs) 250 = .ok (.ireturn, 1) := by decide +kernel
theorem d_X0_doneAs_251 : decode (zmc m_X0_doneAs) 251 = .ok (.aload_n 0, 1) := by decide +kernel
theorem d_X0_doneAs_252 : decode (zmc m_X0_doneAs) 252 = .ok (.iload 6, 2) := by decide +kernel
theorem d_X0_doneAs_254 : decode (zmc m_X0_doneAs) 254 = .ok (.iload_n 2, 1) := by decide +kernel
theorem d_X0_doneAs_255 : decode (zmc m_X0_doneAs) 255 = .ok (.iload_n 3, 1) := by decide +kernel
theorem d_X0_doneAs_256 : decode (zmc m_X0_doneAs) 256 = .ok (.iload 4, 2) := by decide +kernel
theorem d_X0_doneAs_258 : decode (zmc m_X0_doneAs) 258 = .ok (.iload 8, 2) := by decide +kernel
theorem d_X0_doneAs_260 : decode (zmc m_X0_doneAs) 260 = .ok (.invokevirtual 56, 3) := by decide +kernel
theorem d_X0_doneAs_263 : decode (zmc m_X0_doneAs) 263 = .ok (.ineg, 1) := by decide +kernel
theorem d_X0_doneAs_264 : decode (zmc m_X0_doneAs) 264 = .ok (.ireturn, 1) := by decide +kernel
theorem d_X0_doneAs_265 : decode (zmc m_X0_doneAs) 265 = .ok (.aload_n 0, 1) := by decide +kernel
theorem d_X0_doneAs_266 : decode (zmc m_X0_doneAs) 266 = .ok (.iload 6, 2) := by decide +kernel
theorem d_X0_doneAs_268 : decode (zmc m_X0_doneAs) 268 = .ok (.iload_n 2, 1) := by decide +kernel
theorem d_X0_doneAs_269 : decode (zmc m_X0_doneAs) 269 = .ok (.iload_n 3, 1) := by decide +kernel
theorem d_X0_doneAs_270 : decode (zmc m_X0_doneAs) 270 = .ok (.iload 4, 2) := by decide +kernel
theorem d_X0_doneAs_272 : decode (zmc m_X0_doneAs) 272 = .ok (.iload 8, 2) := by decide +kernel
theorem d_X0_doneAs_274 : decode (zmc m_X0_doneAs) 274 = .ok (.invokevirtual 56, 3) := by decide +kernel
theorem d_X0_doneAs_277 : decode (zmc m_X0_doneAs) 277 = .ok (.iconst 3, 1) := by decide +kernel
theorem d_X0_doneAs_278 : decode (zmc m_X0_doneAs) 278 = .ok (.imul, 1) := by decide +kernel
theorem d_X0_doneAs_279 : decode (zmc m_X0_doneAs) 279 = .ok (.ireturn, 1) := by decide +kernel
theorem d_X0_doneAs_280 : decode (zmc m_X0_doneAs) 280 = .ok (.aload_n 0, 1) := by decide +kernel
theorem d_X0_doneAs_281 : decode (zmc m_X0_doneAs) 281 = .ok (.iload 6, 2) := by decide +kernel
theorem d_X0_doneAs_283 : decode (zmc m_X0_doneAs) 283 = .ok (.iload_n 2, 1) := by decide +kernel
theorem d_X0_doneAs_284 : decode (zmc m_X0_doneAs) 284 = .ok (.iload_n 3, 1) := by decide +kernel
theorem d_X0_doneAs_285 : decode (zmc m_X0_doneAs) 285 = .ok (.iload 4, 2) := by decide +kernel
theorem d_X0_doneAs_287 : decode (zmc m_X0_doneAs) 287 = .ok (.iconst 1, 1) := by decide +kernel
theorem d_X0_doneAs_288 : decode (zmc m_X0_doneAs) 288 = .ok (.iadd, 1) := by decide +kernel
theorem d_X0_doneAs_289 : decode (zmc m_X0_doneAs) 289 = .ok (.iload 8, 2) := by decide +kernel
theorem d_X0_doneAs_291 : decode (zmc m_X0_doneAs) 291 = .ok (.invokevirtual 56, 3) := by decide +kernel
theorem d_X0_doneAs_294 : decode (zmc m_X0_doneAs) 294 = .ok (.ireturn, 1) := by decide +kernel
theorem d_X0_doneAs_295 : decode (zmc m_X0_doneAs) 295 = .ok (.aload_n 0, 1) := by decide +kernel
theorem d_X0_doneAs_296 : decode (zmc m_X0_doneAs) 296 = .ok (.iload 6, 2) := by decide +kernel
theorem d_X0_doneAs_298 : decode (zmc m_X0_doneAs) 298 = .ok (.iload_n 2, 1) := by decide +kernel
theorem d_X0_doneAs_299 : decode (zmc m_X0_doneAs) 299 = .ok (.iload_n 3, 1) := by decide +kernel
theorem d_X0_doneAs_300 : decode (zmc m_X0_doneAs) 300 = .ok (.iload 4, 2) := by decide +kernel
theorem d_X0_doneAs_302 : decode (zmc m_X0_doneAs) 302 = .ok (.iload 8, 2) := by decide +kernel
theorem d_X0_doneAs_304 : decode (zmc m_X0_doneAs) 304 = .ok (.invokevirtual 56, 3) := by decide +kernel
theorem d_X0_doneAs_307 : decode (zmc m_X0_doneAs) 307 = .ok (.iconst 5, 1) := by decide +kernel
theorem d_X0_doneAs_308 : decode (zmc m_X0_doneAs) 308 = .ok (.ixor, 1) := by decide +kernel
theorem d_X0_doneAs_309 : decode (zmc m_X0_doneAs) 309 = .ok (.ireturn, 1) := by decide +kernel
theorem d_X0_doneAs_310 : decode (zmc m_X0_doneAs) 310 = .ok (.aload_n 0, 1) := by decide +kernel
theorem d_X0_doneAs_311 : decode (zmc m_X0_doneAs) 311 = .ok (.iload 6, 2) := by decide +kernel
theorem d_X0_doneAs_313 : decode (zmc m_X0_doneAs) 313 = .ok (.iload_n 2, 1) := by decide +kernel
theorem d_X0_doneAs_314 : decode (zmc m_X0_doneAs) 314 = .ok (.iload_n 3, 1) := by decide +kernel
theorem d_X0_doneAs_315 : decode (zmc m_X0_doneAs) 315 = .ok (.iload 4, 2) := by decide +kernel
theorem d_X0_doneAs_317 : decode (zmc m_X0_doneAs) 317 = .ok (.iload 8, 2) := by decide +kernel
theorem d_X0_doneAs_319 : decode (zmc m_X0_doneAs) 319 = .ok (.invokevirtual 56, 3) := by decide +kernel
theorem d_X0_doneAs_322 : decode (zmc m_X0_doneAs) 322 = .ok (.aload_n 0, 1) := by decide +kernel
theorem d_X0_doneAs_323 : decode (zmc m_X0_doneAs) 323 = .ok (.iload_n 2, 1) := by decide +kernel
theorem d_X0_doneAs_324 : decode (zmc m_X0_doneAs) 324 = .ok (.iconst 0, 1) := by decide +kernel
theorem d_X0_doneAs_325 : decode (zmc m_X0_doneAs) 325 = .ok (.iconst 2, 1) := by decide +kernel
theorem d_X0_doneAs_326 : decode (zmc m_X0_doneAs) 326 = .ok (.iload 8, 2) := by decide +kernel
theorem d_X0_doneAs_328 : decode (zmc m_X0_doneAs) 328 = .ok (.invokevirtual 41, 3) := by decide +kernel
theorem d_X0_doneAs_331 : decode (zmc m_X0_doneAs) 331 = .ok (.isub, 1) := by decide +kernel
theorem d_X0_doneAs_332 : decode (zmc m_X0_doneAs) 332 = .ok (.ireturn, 1) := by decide +kernel
theorem d_X0_doneAs_333 : decode (zmc m_X0_doneAs) 333 = .ok (.aload_n 0, 1) := by decide +kernel
theorem d_X0_doneAs_334 : decode (zmc m_X0_doneAs) 334 = .ok (.iload 6, 2) := by decide +kernel
theorem d_X0_doneAs_336 : decode (zmc m_X0_doneAs) 336 = .ok (.iload_n 2, 1) := by decide +kernel
theorem d_X0_doneAs_337 : decode (zmc m_X0_doneAs) 337 = .ok (.iload_n 3, 1) := by decide +kernel
theorem d_X0_doneAs_338 : decode (zmc m_X0_doneAs) 338 = .ok (.iload 4, 2) := by decide +kernel
theorem d_X0_doneAs_340 : decode (zmc m_X0_doneAs) 340 = .ok (.iload 8, 2) := by decide +kernel
theorem d_X0_doneAs_342 : decode (zmc m_X0_doneAs) 342 = .ok (.invokevirtual 56, 3) := by decide +kernel
theorem d_X0_doneAs_345 : decode (zmc m_X0_doneAs) 345 = .ok (.iconst 1, 1) := by decide +kernel
theorem d_X0_doneAs_346 : decode (zmc m_X0_doneAs) 346 = .ok (.iadd, 1) := by decide +kernel
theorem d_X0_doneAs_347 : decode (zmc m_X0_doneAs) 347 = .ok (.ireturn, 1) := by decide +kernel
theorem d_X0_doneAs_348 : decode (zmc m_X0_doneAs) 348 = .ok (.aload_n 0, 1) := by decide +kernel
theorem d_X0_doneAs_349 : decode (zmc m_X0_doneAs) 349 = .ok (.iload 6, 2) := by decide +kernel
theorem d_X0_doneAs_351 : decode (zmc m_X0_doneAs) 351 = .ok (.iload_n 2, 1) := by decide +kernel
theorem d_X0_doneAs_352 : decode (zmc m_X0_doneAs) 352 = .ok (.iload_n 3, 1) := by decide +kernel
theorem d_X0_doneAs_353 : decode (zmc m_X0_doneAs) 353 = .ok (.iload 4, 2) := by decide +kernel
theorem d_X0_doneAs_355 : decode (zmc m_X0_doneAs) 355 = .ok (.iload 8, 2) := by decide +kernel
theorem d_X0_doneAs_357 : decode (zmc m_X0_doneAs) 357 = .ok (.invokevirtual 56, 3) := by decide +kernel
theorem d_X0_doneAs_360 : decode (zmc m_X0_doneAs) 360 = .ok (.iconst 2, 1) := by decide +kernel
theorem d_X0_doneAs_361 : decode (zmc m_X0_doneAs) 361 = .ok (.imul, 1) := by decide +kernel
theorem d_X0_doneAs_362 : decode (zmc m_X0_doneAs) 362 = .ok (.ireturn, 1) := by decide +kernel
theorem d_X0_doneAs_363 : decode (zmc m_X0_doneAs) 363 = .ok (.aload_n 0, 1) := by decide +kernel
theorem d_X0_doneAs_364 : decode (zmc m_X0_doneAs) 364 = .ok (.iload 6, 2) := by decide +kernel
theorem d_X0_doneAs_366 : decode (zmc m_X0_doneAs) 366 = .ok (.iload_n 2, 1) := by decide +kernel
theorem d_X0_doneAs_367 : decode (zmc m_X0_doneAs) 367 = .ok (.iload_n 3, 1) := by decide +kernel
theorem d_X0_doneAs_368 : decode (zmc m_X0_doneAs) 368 = .ok (.iload 4, 2) := by decide +kernel
theorem d_X0_doneAs_370 : decode (zmc m_X0_doneAs) 370 = .ok (.iload 8, 2) := by decide +kernel
theorem d_X0_doneAs_372 : decode (zmc m_X0_doneAs) 372 = .ok (.invokevirtual 56, 3) := by decide +kernel
theorem d_X0_doneAs_375 : decode (zmc m_X0_doneAs) 375 = .ok (.aload_n 0, 1) := by decide +kernel
theorem d_X0_doneAs_376 : decode (zmc m_X0_doneAs) 376 = .ok (.iload_n 2, 1) := by decide +kernel
theorem d_X0_doneAs_377 : decode (zmc m_X0_doneAs) 377 = .ok (.iconst 2, 1) := by decide +kernel
theorem d_X0_doneAs_378 : decode (zmc m_X0_doneAs) 378 = .ok (.iconst 2, 1) := by decide +kernel
theorem d_X0_doneAs_379 : decode (zmc m_X0_doneAs) 379 = .ok (.iload 8, 2) := by decide +kernel
theorem d_X0_doneAs_381 : decode (zmc m_X0_doneAs) 381 = .ok (.invokevirtual 41, 3) := by decide +kernel
theorem d_X0_doneAs_384 : decode (zmc m_X0_doneAs) 384 = .ok (.iadd, 1) := by decide +kernel
theorem d_X0_doneAs_385 : decode (zmc m_X0_doneAs) 385 = .ok (.ireturn, 1) := by decide +kernel
theorem d_X0_doneAs_386 : decode (zmc m_X0_doneAs) 386 = .ok (.aload_n 0, 1) := by decide +kernel
theorem d_X0_doneAs_387 : decode (zmc m_X0_doneAs) 387 = .ok (.iload 6, 2) := by decide +kernel
theorem d_X0_doneAs_389 : decode (zmc m_X0_doneAs) 389 = .ok (.iload_n 2, 1) := by decide +kernel
theorem d_X0_doneAs_390 : decode (zmc m_X0_doneAs) 390 = .ok (.iload_n 3, 1) := by decide +kernel
theorem d_X0_doneAs_391 : decode (zmc m_X0_doneAs) 391 = .ok (.iload 4, 2) := by decide +kernel
theorem d_X0_doneAs_393 : decode (zmc m_X0_doneAs) 393 = .ok (.iload 8, 2) := by decide +kernel
theorem d_X0_doneAs_395 : decode (zmc m_X0_doneAs) 395 = .ok (.invokevirtual 56, 3) := by decide +kernel
theorem d_X0_doneAs_398 : decode (zmc m_X0_doneAs) 398 = .ok (.iconst 1, 1) := by decide +kernel
theorem d_X0_doneAs_399 : decode (zmc m_X0_doneAs) 399 = .ok (.isub, 1) := by decide +kernel
theorem d_X0_doneAs_400 : decode (zmc m_X0_doneAs) 400 = .ok (.ireturn, 1) := by decide +kernel
theorem d_X0_doneAs_401 : decode (zmc m_X0_doneAs) 401 = .ok (.iconst 0, 1) := by decide +kernel
theorem d_X0_doneAs_402 : decode (zmc m_X0_doneAs) 402 = .ok (.ireturn, 1) := by decide +kernel
/-! AN ACT -/
section S14
variable {g : zG} {l : Launch} {d : Nat} {I : Nat → Nat → Int32} {L : Nat → Nat → Int64} {fs : Nat × Nat × Option Nat}
theorem zCallVN {n0 n1 : Nat} {M : zM} {R : Nat → Nat → Option Nat} {n pc q : Nat} {lv : List (Nat × Value)} {st : List Value} {Q : Option Value → zW → Prop} {M' : zM} {idx d' kd len a ar n2 : Nat} {As rest : List Value} {P : Int32 → zW → Prop} (hd : decode (zmc M) pc = .ok (.invokevirtual idx, 3)) (hl0 : Cond.methodLink (zmo M) idx (zmy M') ∈ zWT) (hk : zMk M' ar) (hi : Cond.instanceMethod (zmy M') ∈ zWT) (hsl : Cond.selects (zmy M').cls (zmy M') (zmy M') ∈ zWT)
    (hS : zSp g l d' n2 M' (.ref a :: As) (I, L, R, n) (zX P)) (hst : st = As.reverse ++ .ref a :: rest) (har : As.length = ar) (hs : zsh a = (kd, len)) (hkd : kd < 13) (hcl : zcR kd = zmo M') (ha : a < n) (hcat : (rest.map fun v => v.category).sum ≤ 8) (hml : zmn M' ≤ 45) (hd' : d' + 1 ≤ d) (hn : zNs n0 n n2 n1) (hq : q = pc + 3)
    (kk : ∀ x (w' : zW), w'.2.2.2 = n2 → P x w' → zAW g l d n0 n1 M w' q lv (.int x :: rest) Q) : zAW g l d n0 n1 M (I, L, R, n) pc lv st Q :=
  zCallV hd hl0 hk hi hsl hS hst har hs hkd hcl ha hcat hml hd' hn hq (fun v w' hn h => by obtain ⟨x, rfl, h⟩ := h; exact kk x w' hn h)
theorem sp_X0_done (hd : 2 ≤ d) {nb : Nat} (hb : I 38 2 = nI nb) (h50 : nb ≤ 50) {b a x e : Int32} {P : Int32 → zW → Prop} (hS : zSp g l (d - 1) 100 m_X0_doneAs [.ref 38, .int (zKo I b), .int b, .int a, .int x, .int e] (zU I L fs) (zX P)) : zSp g l d 100 m_X0_done [.ref 38, .int b, .int a, .int x, .int e] (zU I L fs) (zX P) := by
  refine zSp_of (lv := [(0, .ref 38), (1, .int b), (2, .int a), (3, .int x), (4, .int e)]) k_X0_done rfl (Nat.le_of_ble_eq_true rfl) ?_
  refine zAloadN d_X0_done_0 rfl rfl (q := 1) rfl ?_
  refine zAloadN d_X0_done_1 rfl rfl (q := 2) rfl ?_
  refine zIloadN d_X0_done_2 rfl rfl (q := 3) rfl ?_
  refine zCallVP d_X0_done_3 ml_X0_38 k_X0_kindOf ki_X0_kindOf ks_X0_kindOf (sp_X0_kindOf (d := d - 1) (by omega) hb h50) rfl rfl sh_38 (by decide) rfl (by decide) (Nat.le_of_ble_eq_true rfl) (by decide) (by omega) zns100 (q := 6) rfl ?_
  refine zIloadN d_X0_done_6 rfl rfl (q := 7) rfl ?_
  refine zIloadN d_X0_done_7 rfl rfl (q := 8) rfl ?_
  refine zIloadN d_X0_done_8 rfl rfl (q := 9) rfl ?_
  refine zIload d_X0_done_9 rfl (q := 11) rfl ?_
  refine zCallVN d_X0_done_11 ml_X0_45 k_X0_doneAs ki_X0_doneAs ks_X0_doneAs hS rfl rfl sh_38 (by decide) rfl (by decide) (Nat.le_of_ble_eq_true rfl) (by decide) (by omega) zns100 (q := 14) rfl (fun y w' hn hw' => ?_)
  refine zIret d_X0_done_14 rfl rfl hn ?_
  exact ⟨_, rfl, hw'⟩
theorem sp_X0_doneAbove (hd : 2 ≤ d) {k b a x e : Int32} {P : Int32 → zW → Prop} (hS : zSp g l (d - 1) 100 m_X0_doneAs [.ref 38, .int (zAbove k), .int b, .int a, .int x, .int e] (zU I L fs) (zX P)) : zSp g l d 100 m_X0_doneAbove [.ref 38, .int k, .int b, .int a, .int x, .int e] (zU I L fs) (zX P) := by
  refine zSp_of (lv := [(0, .ref 38), (1, .int k), (2, .int b), (3, .int a), (4, .int x), (5, .int e)]) k_X0_doneAbove rfl (Nat.le_of_ble_eq_true rfl) ?_
  refine zAloadN d_X0_doneAbove_0 rfl rfl (q := 1) rfl ?_
  refine zIloadN d_X0_doneAbove_1 rfl rfl (q := 2) rfl ?_
  refine zCallSP d_X0_doneAbove_2 ml_X0_22 k_X0_above kt_X0_above (sp_X0_above (d := d - 1) (by omega) ) rfl rfl (Nat.le_of_ble_eq_true rfl) (by decide) (by omega) zns100 (q := 5) rfl ?_
  refine zIloadN d_X0_doneAbove_5 rfl rfl (q := 6) rfl ?_
  refine zIloadN d_X0_doneAbove_6 rfl rfl (q := 7) rfl ?_
  refine zIload d_X0_doneAbove_7 rfl (q := 9) rfl ?_
  refine zIload d_X0_doneAbove_9 rfl (q := 11) rfl ?_
  refine zCallVN d_X0_doneAbove_11 ml_X0_45 k_X0_doneAs ki_X0_doneAs ks_X0_doneAs hS rfl rfl sh_38 (by decide) rfl (by decide) (Nat.le_of_ble_eq_true rfl) (by decide) (by omega) zns100 (q := 14) rfl (fun y w' hn hw' => ?_)
  refine zIret d_X0_doneAbove_14 rfl rfl hn ?_
  exact ⟨_, rfl, hw'⟩
def zTQ (I : Nat → Nat → Int32) (L : Nat → Nat → Int64) (fs : Nat × Nat × Option Nat) (r : Nat) (v : Int32) (t : List Int32) : Int32 → zW → Prop := fun y w => y = v ∧ w = zU (zTrI I r t) L fs
theorem sp_X0_doneAs : ∀ (f : Nat) (d : Nat) (I : Nat → Nat → Int32) (nb r e : Nat) (K k b a x v : Int32) (t : List Int32), 2 * f + 4 ≤ d → I 38 2 = nI nb → nb ≤ 50 → I 38 3 = nI r → r + t.length < 1000 → e + f ≤ 41 → zKo I b = K → zDo f K k a b x = some (v, t) →
    zSp g l d 100 m_X0_doneAs [.ref 38, .int k, .int b, .int a, .int x, .int (nI e)] (zU I L fs) (zX (zTQ I L fs r v t)) := by
  intro f
  induction f with
  | zero =>
    intro d I nb r e K k b a x v t _ _ _ _ _ _ _ h
    cases h
  | succ f ih =>
    intro d I nb r e K k b a x v t hd hb h50 hr hlen he hK hz
    have hcases := zDo_some hz
    obtain ⟨c, hc⟩ : ∃ c, c = zRs 8 k a := ⟨_, rfl⟩
    rw [← hc] at hcases
    have hown : ¬ zOwn c a = 0 := by
      intro q
      rw [q] at hcases
      revert hcases
      decide
    have hz : zDs (zOwn c a).toNatClampNeg b x (fun y => zDo f K (zAbove c) a b y) (fun a' y => zDo f K K a' b y) = some (v, t) := by rw [hc]; exact hz
    have hb1 : ∀ (r : Nat) (u : List Int32), (zTrI I r u) 38 2 = nI nb := fun r u => hb
    have hr1 : ∀ (r : Nat) (u : List Int32), (zTrI I r u) 38 3 = nI (r + u.length) := fun r u => rfl
    have body : zA g l d m_X0_doneAs I L fs 35 [(6, .int c), (0, .ref 38), (1, .int k), (2, .int b), (3, .int a), (4, .int x), (5, .int (nI e))] (zX (zTQ I L fs r v t)) := by
      refine zIload d_X0_doneAs_35 rfl (q := 37) rfl ?_
      refine zIloadN d_X0_doneAs_37 rfl rfl (q := 38) rfl ?_
      refine zCallSP d_X0_doneAs_38 ml_X0_49 k_X0_ownOf kt_X0_ownOf (sp_X0_ownOf (d := d - 1) (by omega) ) rfl rfl (Nat.le_of_ble_eq_true rfl) (by decide) (by omega) zns100 (q := 41) rfl ?_
      refine zIstore d_X0_doneAs_41 (by decide) rfl (q := 43) rfl ?_
      refine zIload d_X0_doneAs_43 rfl (q := 45) rfl ?_
      refine zIf_eq d_X0_doneAs_45 (tgt := 55) (q := 48) (by decide) rfl (fun h => absurd h hown) (fun h45 => ?_)
      refine zIload d_X0_doneAs_48 rfl (q := 50) rfl ?_
      refine zBipush d_X0_doneAs_50 (v := 40) bc_40 (q := 52) rfl ?_
      refine zIcmp_le d_X0_doneAs_52 (tgt := 57) (q := 55) (by decide) rfl (fun h52 => ?_) (fun h => absurd (by have := (nI_leI (a := e) (b := 40) (by omega) (by omega)).mpr (by omega); exact this) h)
      refine zAloadN d_X0_doneAs_57 rfl rfl (q := 58) rfl ?_
      refine zIload d_X0_doneAs_58 rfl (q := 60) rfl ?_
      refine zCallVV d_X0_doneAs_60 ml_X0_52 k_X0_begin ki_X0_begin ks_X0_begin (sp_X0_begin (d := d - 1) (by omega) hr (by omega)) rfl rfl sh_38 (by decide) rfl (by decide) (Nat.le_of_ble_eq_true rfl) (by decide) (by omega) zns100 (q := 63) rfl (fun w' hw' => ?_)
      subst hw'
      refine zIload d_X0_doneAs_63 rfl (q := 65) rfl ?_
      refine zIconst d_X0_doneAs_65 (v := 1) ic_1 (q := 66) rfl ?_
      refine zIadd d_X0_doneAs_66 (q := 67) rfl ?_
      refine zIstore d_X0_doneAs_67 (by decide) rfl (q := 69) rfl ?_
      rw [nI_1]
      refine zIload d_X0_doneAs_69 rfl (q := 71) rfl ?_
      rcases Decidable.em (zOwn c a = (1 : Int32)) with s71_1 | s71_1
      · refine zLook d_X0_doneAs_71 (by decide) (off := 121) (by rw [s71_1]; decide) (q := 192) (by decide) ?_
        rw [s71_1] at hz
        rw [s71_1]
        cases hz
        refine zIload d_X0_doneAs_192 rfl (q := 194) rfl ?_
        refine zIloadN d_X0_doneAs_194 rfl rfl (q := 195) rfl ?_
        refine zIadd d_X0_doneAs_195 (q := 196) rfl ?_
        refine zIret d_X0_doneAs_196 rfl rfl rfl ?_
        exact ⟨_, rfl, rfl, rfl⟩
      rcases Decidable.em (zOwn c a = (2 : Int32)) with s71_2 | s71_2
      · refine zLook d_X0_doneAs_71 (by decide) (off := 126) (by rw [s71_2]; decide) (q := 197) (by decide) ?_
        rw [s71_2] at hz
        have hz : (zDo f K K 1 b x).bind (fun p => (zDo f K K 2 b 1).bind (fun q => some (p.1 - q.1, 2 :: (p.2 ++ q.2)))) = some (v, t) := hz
        obtain ⟨⟨v1, t1⟩, h1, hz2⟩ := Option.bind_eq_some_iff.mp hz
        obtain ⟨⟨v2, t2⟩, h2, h3⟩ := Option.bind_eq_some_iff.mp hz2
        cases h3
        simp only [List.length_cons, List.length_append] at hlen
        refine zAloadN d_X0_doneAs_197 rfl rfl (q := 198) rfl ?_
        refine zIloadN d_X0_doneAs_198 rfl rfl (q := 199) rfl ?_
        refine zIconst d_X0_doneAs_199 (v := 1) ic_1 (q := 200) rfl ?_
        refine zIload d_X0_doneAs_200 rfl (q := 202) rfl ?_
        refine zIload d_X0_doneAs_202 rfl (q := 204) rfl ?_
        refine zCallVX d_X0_doneAs_204 ml_X0_41 k_X0_done ki_X0_done ks_X0_done (sp_X0_done (d := d - 1) (by omega) (hb1 _ _) h50 (ih (d - 1 - 1) (zTrI I r [zOwn c a]) nb (r + 1) (e + 1) K _ b 1 _ v1 t1 (by omega) (hb1 _ _) h50 (hr1 _ _) (by omega) (by omega) hK (hK.symm ▸ h1))) rfl rfl sh_38 (by decide) rfl (by decide) (Nat.le_of_ble_eq_true rfl) (by decide) (by omega) zns100 (q := 207) rfl (fun y w' hw' => ?_)
        obtain ⟨rfl, rfl⟩ := hw'
        rw [show zTrI (zTrI I r [zOwn c a]) (r + 1) t1 = zTrI I r (zOwn c a :: t1) from zTrI_app I r [zOwn c a] t1]
        refine zAloadN d_X0_doneAs_207 rfl rfl (q := 208) rfl ?_
        refine zIloadN d_X0_doneAs_208 rfl rfl (q := 209) rfl ?_
        refine zIconst d_X0_doneAs_209 (v := 2) ic_2 (q := 210) rfl ?_
        refine zIconst d_X0_doneAs_210 (v := 1) ic_1 (q := 211) rfl ?_
        refine zIload d_X0_doneAs_211 rfl (q := 213) rfl ?_
        refine zCallVX d_X0_doneAs_213 ml_X0_41 k_X0_done ki_X0_done ks_X0_done (sp_X0_done (d := d - 1) (by omega) (hb1 _ _) h50 (ih (d - 1 - 1) (zTrI I r (zOwn c a :: t1)) nb (r + (t1.length + 1)) (e + 1) K _ b 2 _ v2 t2 (by omega) (hb1 _ _) h50 (hr1 _ _) (by omega) (by omega) hK (hK.symm ▸ h2))) rfl rfl sh_38 (by decide) rfl (by decide) (Nat.le_of_ble_eq_true rfl) (by decide) (by omega) zns100 (q := 216) rfl (fun y w' hw' => ?_)
        obtain ⟨rfl, rfl⟩ := hw'
        rw [show zTrI (zTrI I r (zOwn c a :: t1)) (r + (t1.length + 1)) t2 = zTrI I r (zOwn c a :: (t1 ++ t2)) from zTrI_app I r (zOwn c a :: t1) t2, s71_2]
        refine zIsub d_X0_doneAs_216 (q := 217) rfl ?_
        refine zIret d_X0_doneAs_217 rfl rfl rfl ?_
        exact ⟨_, rfl, rfl, rfl⟩
      rcases Decidable.em (zOwn c a = (10 : Int32)) with s71_10 | s71_10
      · refine zLook d_X0_doneAs_71 (by decide) (off := 147) (by rw [s71_10]; decide) (q := 218) (by decide) ?_
        rw [s71_10] at hz
        have hz : (zDo f K K 0 b x).bind (fun p => some (p.1 * 2, 10 :: p.2)) = some (v, t) := hz
        obtain ⟨⟨v1, t1⟩, h1, h2⟩ := Option.bind_eq_some_iff.mp hz
        cases h2
        simp only [List.length_cons] at hlen
        refine zAloadN d_X0_doneAs_218 rfl rfl (q := 219) rfl ?_
        refine zIloadN d_X0_doneAs_219 rfl rfl (q := 220) rfl ?_
        refine zIconst d_X0_doneAs_220 (v := 0) ic_0 (q := 221) rfl ?_
        refine zIload d_X0_doneAs_221 rfl (q := 223) rfl ?_
        refine zIload d_X0_doneAs_223 rfl (q := 225) rfl ?_
        refine zCallVX d_X0_doneAs_225 ml_X0_41 k_X0_done ki_X0_done ks_X0_done (sp_X0_done (d := d - 1) (by omega) (hb1 _ _) h50 (ih (d - 1 - 1) (zTrI I r [zOwn c a]) nb (r + 1) (e + 1) K _ b 0 _ v1 t1 (by omega) (hb1 _ _) h50 (hr1 _ _) (by omega) (by omega) hK (hK.symm ▸ h1))) rfl rfl sh_38 (by decide) rfl (by decide) (Nat.le_of_ble_eq_true rfl) (by decide) (by omega) zns100 (q := 228) rfl (fun y w' hw' => ?_)
        obtain ⟨rfl, rfl⟩ := hw'
        rw [show zTrI (zTrI I r [zOwn c a]) (r + 1) t1 = zTrI I r (zOwn c a :: t1) from zTrI_app I r [zOwn c a] t1, s71_10]
        refine zIconst d_X0_doneAs_228 (v := 2) ic_2 (q := 229) rfl ?_
        refine zImul d_X0_doneAs_229 (q := 230) rfl ?_
        refine zIret d_X0_doneAs_230 rfl rfl rfl ?_
        exact ⟨_, rfl, rfl, rfl⟩
      rcases Decidable.em (zOwn c a = (11 : Int32)) with s71_11 | s71_11
      · refine zLook d_X0_doneAs_71 (by decide) (off := 160) (by rw [s71_11]; decide) (q := 231) (by decide) ?_
        rw [s71_11] at hz
        rw [s71_11]
        cases hz
        refine zIload d_X0_doneAs_231 rfl (q := 233) rfl ?_
        refine zIloadN d_X0_doneAs_233 rfl rfl (q := 234) rfl ?_
        refine zIxor d_X0_doneAs_234 (q := 235) rfl ?_
        refine zIret d_X0_doneAs_235 rfl rfl rfl ?_
        exact ⟨_, rfl, rfl, rfl⟩
      rcases Decidable.em (zOwn c a = (20 : Int32)) with s71_20 | s71_20
      · refine zLook d_X0_doneAs_71 (by decide) (off := 165) (by rw [s71_20]; decide) (q := 236) (by decide) ?_
        rw [s71_20] at hz
        have hz : (zDo f K (zAbove c) a b (x)).bind (fun p => some (p.1 + 3, 20 :: p.2)) = some (v, t) := hz
        obtain ⟨⟨v1, t1⟩, h1, h2⟩ := Option.bind_eq_some_iff.mp hz
        cases h2
        simp only [List.length_cons] at hlen
        refine zAloadN d_X0_doneAs_236 rfl rfl (q := 237) rfl ?_
        refine zIload d_X0_doneAs_237 rfl (q := 239) rfl ?_
        refine zIloadN d_X0_doneAs_239 rfl rfl (q := 240) rfl ?_
        refine zIloadN d_X0_doneAs_240 rfl rfl (q := 241) rfl ?_
        refine zIload d_X0_doneAs_241 rfl (q := 243) rfl ?_
        refine zIload d_X0_doneAs_243 rfl (q := 245) rfl ?_
        refine zCallVX d_X0_doneAs_245 ml_X0_56 k_X0_doneAbove ki_X0_doneAbove ks_X0_doneAbove (sp_X0_doneAbove (d := d - 1) (by omega) (ih (d - 1 - 1) (zTrI I r [zOwn c a]) nb (r + 1) (e + 1) K (zAbove c) b a _ v1 t1 (by omega) (hb1 _ _) h50 (hr1 _ _) (by omega) (by omega) hK h1)) rfl rfl sh_38 (by decide) rfl (by decide) (Nat.le_of_ble_eq_true rfl) (by decide) (by omega) zns100 (q := 248) rfl (fun y w' hw' => ?_)
        obtain ⟨rfl, rfl⟩ := hw'
        rw [show zTrI (zTrI I r [zOwn c a]) (r + 1) t1 = zTrI I r (zOwn c a :: t1) from zTrI_app I r [zOwn c a] t1, s71_20]
        refine zIconst d_X0_doneAs_248 (v := 3) ic_3 (q := 249) rfl ?_
        refine zIadd d_X0_doneAs_249 (q := 250) rfl ?_
        refine zIret d_X0_doneAs_250 rfl rfl rfl ?_
        exact ⟨_, rfl, rfl, rfl⟩
      rcases Decidable.em (zOwn c a = (30 : Int32)) with s71_30 | s71_30
      · refine zLook d_X0_doneAs_71 (by decide) (off := 180) (by rw [s71_30]; decide) (q := 251) (by decide) ?_
        rw [s71_30] at hz
        have hz : (zDo f K (zAbove c) a b (x)).bind (fun p => some (-p.1, 30 :: p.2)) = some (v, t) := hz
        obtain ⟨⟨v1, t1⟩, h1, h2⟩ := Option.bind_eq_some_iff.mp hz
        cases h2
        simp only [List.length_cons] at hlen
        refine zAloadN d_X0_doneAs_251 rfl rfl (q := 252) rfl ?_
        refine zIload d_X0_doneAs_252 rfl (q := 254) rfl ?_
        refine zIloadN d_X0_doneAs_254 rfl rfl (q := 255) rfl ?_
        refine zIloadN d_X0_doneAs_255 rfl rfl (q := 256) rfl ?_
        refine zIload d_X0_doneAs_256 rfl (q := 258) rfl ?_
        refine zIload d_X0_doneAs_258 rfl (q := 260) rfl ?_
        refine zCallVX d_X0_doneAs_260 ml_X0_56 k_X0_doneAbove ki_X0_doneAbove ks_X0_doneAbove (sp_X0_doneAbove (d := d - 1) (by omega) (ih (d - 1 - 1) (zTrI I r [zOwn c a]) nb (r + 1) (e + 1) K (zAbove c) b a _ v1 t1 (by omega) (hb1 _ _) h50 (hr1 _ _) (by omega) (by omega) hK h1)) rfl rfl sh_38 (by decide) rfl (by decide) (Nat.le_of_ble_eq_true rfl) (by decide) (by omega) zns100 (q := 263) rfl (fun y w' hw' => ?_)
        obtain ⟨rfl, rfl⟩ := hw'
        rw [show zTrI (zTrI I r [zOwn c a]) (r + 1) t1 = zTrI I r (zOwn c a :: t1) from zTrI_app I r [zOwn c a] t1, s71_30]
        refine zIneg d_X0_doneAs_263 (q := 264) rfl ?_
        refine zIret d_X0_doneAs_264 rfl rfl rfl ?_
        exact ⟨_, rfl, rfl, rfl⟩
      rcases Decidable.em (zOwn c a = (40 : Int32)) with s71_40 | s71_40
      · refine zLook d_X0_doneAs_71 (by decide) (off := 194) (by rw [s71_40]; decide) (q := 265) (by decide) ?_
        rw [s71_40] at hz
        have hz : (zDo f K (zAbove c) a b (x)).bind (fun p => some (p.1 * 3, 40 :: p.2)) = some (v, t) := hz
        obtain ⟨⟨v1, t1⟩, h1, h2⟩ := Option.bind_eq_some_iff.mp hz
        cases h2
        simp only [List.length_cons] at hlen
        refine zAloadN d_X0_doneAs_265 rfl rfl (q := 266) rfl ?_
        refine zIload d_X0_doneAs_266 rfl (q := 268) rfl ?_
        refine zIloadN d_X0_doneAs_268 rfl rfl (q := 269) rfl ?_
        refine zIloadN d_X0_doneAs_269 rfl rfl (q := 270) rfl ?_
        refine zIload d_X0_doneAs_270 rfl (q := 272) rfl ?_
        refine zIload d_X0_doneAs_272 rfl (q := 274) rfl ?_
        refine zCallVX d_X0_doneAs_274 ml_X0_56 k_X0_doneAbove ki_X0_doneAbove ks_X0_doneAbove (sp_X0_doneAbove (d := d - 1) (by omega) (ih (d - 1 - 1) (zTrI I r [zOwn c a]) nb (r + 1) (e + 1) K (zAbove c) b a _ v1 t1 (by omega) (hb1 _ _) h50 (hr1 _ _) (by omega) (by omega) hK h1)) rfl rfl sh_38 (by decide) rfl (by decide) (Nat.le_of_ble_eq_true rfl) (by decide) (by omega) zns100 (q := 277) rfl (fun y w' hw' => ?_)
        obtain ⟨rfl, rfl⟩ := hw'
        rw [show zTrI (zTrI I r [zOwn c a]) (r + 1) t1 = zTrI I r (zOwn c a :: t1) from zTrI_app I r [zOwn c a] t1, s71_40]
        refine zIconst d_X0_doneAs_277 (v := 3) ic_3 (q := 278) rfl ?_
        refine zImul d_X0_doneAs_278 (q := 279) rfl ?_
        refine zIret d_X0_doneAs_279 rfl rfl rfl ?_
        exact ⟨_, rfl, rfl, rfl⟩
      rcases Decidable.em (zOwn c a = (41 : Int32)) with s71_41 | s71_41
      · refine zLook d_X0_doneAs_71 (by decide) (off := 209) (by rw [s71_41]; decide) (q := 280) (by decide) ?_
        rw [s71_41] at hz
        have hz : (zDo f K (zAbove c) a b (x + 1)).bind (fun p => some (p.1, 41 :: p.2)) = some (v, t) := hz
        obtain ⟨⟨v1, t1⟩, h1, h2⟩ := Option.bind_eq_some_iff.mp hz
        cases h2
        simp only [List.length_cons] at hlen
        refine zAloadN d_X0_doneAs_280 rfl rfl (q := 281) rfl ?_
        refine zIload d_X0_doneAs_281 rfl (q := 283) rfl ?_
        refine zIloadN d_X0_doneAs_283 rfl rfl (q := 284) rfl ?_
        refine zIloadN d_X0_doneAs_284 rfl rfl (q := 285) rfl ?_
        refine zIload d_X0_doneAs_285 rfl (q := 287) rfl ?_
        refine zIconst d_X0_doneAs_287 (v := 1) ic_1 (q := 288) rfl ?_
        refine zIadd d_X0_doneAs_288 (q := 289) rfl ?_
        refine zIload d_X0_doneAs_289 rfl (q := 291) rfl ?_
        refine zCallVX d_X0_doneAs_291 ml_X0_56 k_X0_doneAbove ki_X0_doneAbove ks_X0_doneAbove (sp_X0_doneAbove (d := d - 1) (by omega) (ih (d - 1 - 1) (zTrI I r [zOwn c a]) nb (r + 1) (e + 1) K (zAbove c) b a _ v1 t1 (by omega) (hb1 _ _) h50 (hr1 _ _) (by omega) (by omega) hK h1)) rfl rfl sh_38 (by decide) rfl (by decide) (Nat.le_of_ble_eq_true rfl) (by decide) (by omega) zns100 (q := 294) rfl (fun y w' hw' => ?_)
        obtain ⟨rfl, rfl⟩ := hw'
        rw [show zTrI (zTrI I r [zOwn c a]) (r + 1) t1 = zTrI I r (zOwn c a :: t1) from zTrI_app I r [zOwn c a] t1, s71_41]
        refine zIret d_X0_doneAs_294 rfl rfl rfl ?_
        exact ⟨_, rfl, rfl, rfl⟩
      rcases Decidable.em (zOwn c a = (50 : Int32)) with s71_50 | s71_50
      · refine zLook d_X0_doneAs_71 (by decide) (off := 224) (by rw [s71_50]; decide) (q := 295) (by decide) ?_
        rw [s71_50] at hz
        have hz : (zDo f K (zAbove c) a b (x)).bind (fun p => some (p.1 ^^^ 5, 50 :: p.2)) = some (v, t) := hz
        obtain ⟨⟨v1, t1⟩, h1, h2⟩ := Option.bind_eq_some_iff.mp hz
        cases h2
        simp only [List.length_cons] at hlen
        refine zAloadN d_X0_doneAs_295 rfl rfl (q := 296) rfl ?_
        refine zIload d_X0_doneAs_296 rfl (q := 298) rfl ?_
        refine zIloadN d_X0_doneAs_298 rfl rfl (q := 299) rfl ?_
        refine zIloadN d_X0_doneAs_299 rfl rfl (q := 300) rfl ?_
        refine zIload d_X0_doneAs_300 rfl (q := 302) rfl ?_
        refine zIload d_X0_doneAs_302 rfl (q := 304) rfl ?_
        refine zCallVX d_X0_doneAs_304 ml_X0_56 k_X0_doneAbove ki_X0_doneAbove ks_X0_doneAbove (sp_X0_doneAbove (d := d - 1) (by omega) (ih (d - 1 - 1) (zTrI I r [zOwn c a]) nb (r + 1) (e + 1) K (zAbove c) b a _ v1 t1 (by omega) (hb1 _ _) h50 (hr1 _ _) (by omega) (by omega) hK h1)) rfl rfl sh_38 (by decide) rfl (by decide) (Nat.le_of_ble_eq_true rfl) (by decide) (by omega) zns100 (q := 307) rfl (fun y w' hw' => ?_)
        obtain ⟨rfl, rfl⟩ := hw'
        rw [show zTrI (zTrI I r [zOwn c a]) (r + 1) t1 = zTrI I r (zOwn c a :: t1) from zTrI_app I r [zOwn c a] t1, s71_50]
        refine zIconst d_X0_doneAs_307 (v := 5) ic_5 (q := 308) rfl ?_
        refine zIxor d_X0_doneAs_308 (q := 309) rfl ?_
        refine zIret d_X0_doneAs_309 rfl rfl rfl ?_
        exact ⟨_, rfl, rfl, rfl⟩
      rcases Decidable.em (zOwn c a = (60 : Int32)) with s71_60 | s71_60
      · refine zLook d_X0_doneAs_71 (by decide) (off := 239) (by rw [s71_60]; decide) (q := 310) (by decide) ?_
        rw [s71_60] at hz
        have hz : (zDo f K (zAbove c) a b x).bind (fun p => (zDo f K K 0 b 2).bind (fun q => some (p.1 - q.1, 60 :: (p.2 ++ q.2)))) = some (v, t) := hz
        obtain ⟨⟨v1, t1⟩, h1, hz2⟩ := Option.bind_eq_some_iff.mp hz
        obtain ⟨⟨v2, t2⟩, h2, h3⟩ := Option.bind_eq_some_iff.mp hz2
        cases h3
        simp only [List.length_cons, List.length_append] at hlen
        refine zAloadN d_X0_doneAs_310 rfl rfl (q := 311) rfl ?_
        refine zIload d_X0_doneAs_311 rfl (q := 313) rfl ?_
        refine zIloadN d_X0_doneAs_313 rfl rfl (q := 314) rfl ?_
        refine zIloadN d_X0_doneAs_314 rfl rfl (q := 315) rfl ?_
        refine zIload d_X0_doneAs_315 rfl (q := 317) rfl ?_
        refine zIload d_X0_doneAs_317 rfl (q := 319) rfl ?_
        refine zCallVX d_X0_doneAs_319 ml_X0_56 k_X0_doneAbove ki_X0_doneAbove ks_X0_doneAbove (sp_X0_doneAbove (d := d - 1) (by omega) (ih (d - 1 - 1) (zTrI I r [zOwn c a]) nb (r + 1) (e + 1) K (zAbove c) b a _ v1 t1 (by omega) (hb1 _ _) h50 (hr1 _ _) (by omega) (by omega) hK h1)) rfl rfl sh_38 (by decide) rfl (by decide) (Nat.le_of_ble_eq_true rfl) (by decide) (by omega) zns100 (q := 322) rfl (fun y w' hw' => ?_)
        obtain ⟨rfl, rfl⟩ := hw'
        rw [show zTrI (zTrI I r [zOwn c a]) (r + 1) t1 = zTrI I r (zOwn c a :: t1) from zTrI_app I r [zOwn c a] t1]
        refine zAloadN d_X0_doneAs_322 rfl rfl (q := 323) rfl ?_
        refine zIloadN d_X0_doneAs_323 rfl rfl (q := 324) rfl ?_
        refine zIconst d_X0_doneAs_324 (v := 0) ic_0 (q := 325) rfl ?_
        refine zIconst d_X0_doneAs_325 (v := 2) ic_2 (q := 326) rfl ?_
        refine zIload d_X0_doneAs_326 rfl (q := 328) rfl ?_
        refine zCallVX d_X0_doneAs_328 ml_X0_41 k_X0_done ki_X0_done ks_X0_done (sp_X0_done (d := d - 1) (by omega) (hb1 _ _) h50 (ih (d - 1 - 1) (zTrI I r (zOwn c a :: t1)) nb (r + (t1.length + 1)) (e + 1) K _ b 0 _ v2 t2 (by omega) (hb1 _ _) h50 (hr1 _ _) (by omega) (by omega) hK (hK.symm ▸ h2))) rfl rfl sh_38 (by decide) rfl (by decide) (Nat.le_of_ble_eq_true rfl) (by decide) (by omega) zns100 (q := 331) rfl (fun y w' hw' => ?_)
        obtain ⟨rfl, rfl⟩ := hw'
        rw [show zTrI (zTrI I r (zOwn c a :: t1)) (r + (t1.length + 1)) t2 = zTrI I r (zOwn c a :: (t1 ++ t2)) from zTrI_app I r (zOwn c a :: t1) t2, s71_60]
        refine zIsub d_X0_doneAs_331 (q := 332) rfl ?_
        refine zIret d_X0_doneAs_332 rfl rfl rfl ?_
        exact ⟨_, rfl, rfl, rfl⟩
      rcases Decidable.em (zOwn c a = (61 : Int32)) with s71_61 | s71_61
      · refine zLook d_X0_doneAs_71 (by decide) (off := 262) (by rw [s71_61]; decide) (q := 333) (by decide) ?_
        rw [s71_61] at hz
        have hz : (zDo f K (zAbove c) a b (x)).bind (fun p => some (p.1 + 1, 61 :: p.2)) = some (v, t) := hz
        obtain ⟨⟨v1, t1⟩, h1, h2⟩ := Option.bind_eq_some_iff.mp hz
        cases h2
        simp only [List.length_cons] at hlen
        refine zAloadN d_X0_doneAs_333 rfl rfl (q := 334) rfl ?_
        refine zIload d_X0_doneAs_334 rfl (q := 336) rfl ?_
        refine zIloadN d_X0_doneAs_336 rfl rfl (q := 337) rfl ?_
        refine zIloadN d_X0_doneAs_337 rfl rfl (q := 338) rfl ?_
        refine zIload d_X0_doneAs_338 rfl (q := 340) rfl ?_
        refine zIload d_X0_doneAs_340 rfl (q := 342) rfl ?_
        refine zCallVX d_X0_doneAs_342 ml_X0_56 k_X0_doneAbove ki_X0_doneAbove ks_X0_doneAbove (sp_X0_doneAbove (d := d - 1) (by omega) (ih (d - 1 - 1) (zTrI I r [zOwn c a]) nb (r + 1) (e + 1) K (zAbove c) b a _ v1 t1 (by omega) (hb1 _ _) h50 (hr1 _ _) (by omega) (by omega) hK h1)) rfl rfl sh_38 (by decide) rfl (by decide) (Nat.le_of_ble_eq_true rfl) (by decide) (by omega) zns100 (q := 345) rfl (fun y w' hw' => ?_)
        obtain ⟨rfl, rfl⟩ := hw'
        rw [show zTrI (zTrI I r [zOwn c a]) (r + 1) t1 = zTrI I r (zOwn c a :: t1) from zTrI_app I r [zOwn c a] t1, s71_61]
        refine zIconst d_X0_doneAs_345 (v := 1) ic_1 (q := 346) rfl ?_
        refine zIadd d_X0_doneAs_346 (q := 347) rfl ?_
        refine zIret d_X0_doneAs_347 rfl rfl rfl ?_
        exact ⟨_, rfl, rfl, rfl⟩
      rcases Decidable.em (zOwn c a = (70 : Int32)) with s71_70 | s71_70
      · refine zLook d_X0_doneAs_71 (by decide) (off := 277) (by rw [s71_70]; decide) (q := 348) (by decide) ?_
        rw [s71_70] at hz
        have hz : (zDo f K (zAbove c) a b (x)).bind (fun p => some (p.1 * 2, 70 :: p.2)) = some (v, t) := hz
        obtain ⟨⟨v1, t1⟩, h1, h2⟩ := Option.bind_eq_some_iff.mp hz
        cases h2
        simp only [List.length_cons] at hlen
        refine zAloadN d_X0_doneAs_348 rfl rfl (q := 349) rfl ?_
        refine zIload d_X0_doneAs_349 rfl (q := 351) rfl ?_
        refine zIloadN d_X0_doneAs_351 rfl rfl (q := 352) rfl ?_
        refine zIloadN d_X0_doneAs_352 rfl rfl (q := 353) rfl ?_
        refine zIload d_X0_doneAs_353 rfl (q := 355) rfl ?_
        refine zIload d_X0_doneAs_355 rfl (q := 357) rfl ?_
        refine zCallVX d_X0_doneAs_357 ml_X0_56 k_X0_doneAbove ki_X0_doneAbove ks_X0_doneAbove (sp_X0_doneAbove (d := d - 1) (by omega) (ih (d - 1 - 1) (zTrI I r [zOwn c a]) nb (r + 1) (e + 1) K (zAbove c) b a _ v1 t1 (by omega) (hb1 _ _) h50 (hr1 _ _) (by omega) (by omega) hK h1)) rfl rfl sh_38 (by decide) rfl (by decide) (Nat.le_of_ble_eq_true rfl) (by decide) (by omega) zns100 (q := 360) rfl (fun y w' hw' => ?_)
        obtain ⟨rfl, rfl⟩ := hw'
        rw [show zTrI (zTrI I r [zOwn c a]) (r + 1) t1 = zTrI I r (zOwn c a :: t1) from zTrI_app I r [zOwn c a] t1, s71_70]
        refine zIconst d_X0_doneAs_360 (v := 2) ic_2 (q := 361) rfl ?_
        refine zImul d_X0_doneAs_361 (q := 362) rfl ?_
        refine zIret d_X0_doneAs_362 rfl rfl rfl ?_
        exact ⟨_, rfl, rfl, rfl⟩
      rcases Decidable.em (zOwn c a = (80 : Int32)) with s71_80 | s71_80
      · refine zLook d_X0_doneAs_71 (by decide) (off := 292) (by rw [s71_80]; decide) (q := 363) (by decide) ?_
        rw [s71_80] at hz
        have hz : (zDo f K (zAbove c) a b x).bind (fun p => (zDo f K K 2 b 2).bind (fun q => some (p.1 + q.1, 80 :: (p.2 ++ q.2)))) = some (v, t) := hz
        obtain ⟨⟨v1, t1⟩, h1, hz2⟩ := Option.bind_eq_some_iff.mp hz
        obtain ⟨⟨v2, t2⟩, h2, h3⟩ := Option.bind_eq_some_iff.mp hz2
        cases h3
        simp only [List.length_cons, List.length_append] at hlen
        refine zAloadN d_X0_doneAs_363 rfl rfl (q := 364) rfl ?_
        refine zIload d_X0_doneAs_364 rfl (q := 366) rfl ?_
        refine zIloadN d_X0_doneAs_366 rfl rfl (q := 367) rfl ?_
        refine zIloadN d_X0_doneAs_367 rfl rfl (q := 368) rfl ?_
        refine zIload d_X0_doneAs_368 rfl (q := 370) rfl ?_
        refine zIload d_X0_doneAs_370 rfl (q := 372) rfl ?_
        refine zCallVX d_X0_doneAs_372 ml_X0_56 k_X0_doneAbove ki_X0_doneAbove ks_X0_doneAbove (sp_X0_doneAbove (d := d - 1) (by omega) (ih (d - 1 - 1) (zTrI I r [zOwn c a]) nb (r + 1) (e + 1) K (zAbove c) b a _ v1 t1 (by omega) (hb1 _ _) h50 (hr1 _ _) (by omega) (by omega) hK h1)) rfl rfl sh_38 (by decide) rfl (by decide) (Nat.le_of_ble_eq_true rfl) (by decide) (by omega) zns100 (q := 375) rfl (fun y w' hw' => ?_)
        obtain ⟨rfl, rfl⟩ := hw'
        rw [show zTrI (zTrI I r [zOwn c a]) (r + 1) t1 = zTrI I r (zOwn c a :: t1) from zTrI_app I r [zOwn c a] t1]
        refine zAloadN d_X0_doneAs_375 rfl rfl (q := 376) rfl ?_
        refine zIloadN d_X0_doneAs_376 rfl rfl (q := 377) rfl ?_
        refine zIconst d_X0_doneAs_377 (v := 2) ic_2 (q := 378) rfl ?_
        refine zIconst d_X0_doneAs_378 (v := 2) ic_2 (q := 379) rfl ?_
        refine zIload d_X0_doneAs_379 rfl (q := 381) rfl ?_
        refine zCallVX d_X0_doneAs_381 ml_X0_41 k_X0_done ki_X0_done ks_X0_done (sp_X0_done (d := d - 1) (by omega) (hb1 _ _) h50 (ih (d - 1 - 1) (zTrI I r (zOwn c a :: t1)) nb (r + (t1.length + 1)) (e + 1) K _ b 2 _ v2 t2 (by omega) (hb1 _ _) h50 (hr1 _ _) (by omega) (by omega) hK (hK.symm ▸ h2))) rfl rfl sh_38 (by decide) rfl (by decide) (Nat.le_of_ble_eq_true rfl) (by decide) (by omega) zns100 (q := 384) rfl (fun y w' hw' => ?_)
        obtain ⟨rfl, rfl⟩ := hw'
        rw [show zTrI (zTrI I r (zOwn c a :: t1)) (r + (t1.length + 1)) t2 = zTrI I r (zOwn c a :: (t1 ++ t2)) from zTrI_app I r (zOwn c a :: t1) t2, s71_80]
        refine zIadd d_X0_doneAs_384 (q := 385) rfl ?_
        refine zIret d_X0_doneAs_385 rfl rfl rfl ?_
        exact ⟨_, rfl, rfl, rfl⟩
      rcases Decidable.em (zOwn c a = (81 : Int32)) with s71_81 | s71_81
      · refine zLook d_X0_doneAs_71 (by decide) (off := 315) (by rw [s71_81]; decide) (q := 386) (by decide) ?_
        rw [s71_81] at hz
        have hz : (zDo f K (zAbove c) a b (x)).bind (fun p => some (p.1 - 1, 81 :: p.2)) = some (v, t) := hz
        obtain ⟨⟨v1, t1⟩, h1, h2⟩ := Option.bind_eq_some_iff.mp hz
        cases h2
        simp only [List.length_cons] at hlen
        refine zAloadN d_X0_doneAs_386 rfl rfl (q := 387) rfl ?_
        refine zIload d_X0_doneAs_387 rfl (q := 389) rfl ?_
        refine zIloadN d_X0_doneAs_389 rfl rfl (q := 390) rfl ?_
        refine zIloadN d_X0_doneAs_390 rfl rfl (q := 391) rfl ?_
        refine zIload d_X0_doneAs_391 rfl (q := 393) rfl ?_
        refine zIload d_X0_doneAs_393 rfl (q := 395) rfl ?_
        refine zCallVX d_X0_doneAs_395 ml_X0_56 k_X0_doneAbove ki_X0_doneAbove ks_X0_doneAbove (sp_X0_doneAbove (d := d - 1) (by omega) (ih (d - 1 - 1) (zTrI I r [zOwn c a]) nb (r + 1) (e + 1) K (zAbove c) b a _ v1 t1 (by omega) (hb1 _ _) h50 (hr1 _ _) (by omega) (by omega) hK h1)) rfl rfl sh_38 (by decide) rfl (by decide) (Nat.le_of_ble_eq_true rfl) (by decide) (by omega) zns100 (q := 398) rfl (fun y w' hw' => ?_)
        obtain ⟨rfl, rfl⟩ := hw'
        rw [show zTrI (zTrI I r [zOwn c a]) (r + 1) t1 = zTrI I r (zOwn c a :: t1) from zTrI_app I r [zOwn c a] t1, s71_81]
        refine zIconst d_X0_doneAs_398 (v := 1) ic_1 (q := 399) rfl ?_
        refine zIsub d_X0_doneAs_399 (q := 400) rfl ?_
        refine zIret d_X0_doneAs_400 rfl rfl rfl ?_
        exact ⟨_, rfl, rfl, rfl⟩
      exact absurd hcases (by simp only [s71_1, s71_2, s71_10, s71_11, s71_20, s71_30, s71_40, s71_41, s71_50, s71_60, s71_61, s71_70, s71_80, s71_81, or_self, not_false_eq_true])
    have loop : ∀ i, i ≤ 8 → ∀ c', zRs (8 - i) c' a = c → zA g l d m_X0_doneAs I L fs 6 [(7, .int (nI i)), (6, .int c'), (0, .ref 38), (1, .int k), (2, .int b), (3, .int a), (4, .int x), (5, .int (nI e))] (zX (zTQ I L fs r v t)) := by
      refine zloop 8 (fun i hi ih2 c' hx => ?_)
      refine zIload d_X0_doneAs_6 rfl (q := 8) rfl ?_
      refine zBipush d_X0_doneAs_8 (v := 8) bc_8 (q := 10) rfl ?_
      refine zIcmp_ge d_X0_doneAs_10 (tgt := 35) (q := 13) (by decide) rfl (fun h10 => ?_) (fun h10 => ?_)
      · have e8 : i = 8 := by have := nle (b := 8) h10; omega
        subst e8
        have hx : c' = c := hx
        subst hx
        refine zSub [1, 2, 3, 4, 5, 6, 7] rfl ?_
        exact body
      · have hlt := nnle (b := 8) h10
        obtain ⟨m, hm⟩ : ∃ m, 8 - i = m + 1 := ⟨8 - i - 1, by omega⟩
        have hm2 : 8 - (i + 1) = m := by omega
        rw [hm] at hx
        refine zIload d_X0_doneAs_13 rfl (q := 15) rfl ?_
        refine zIloadN d_X0_doneAs_15 rfl rfl (q := 16) rfl ?_
        refine zCallSP d_X0_doneAs_16 ml_X0_49 k_X0_ownOf kt_X0_ownOf (sp_X0_ownOf (d := d - 1) (by omega) ) rfl rfl (Nat.le_of_ble_eq_true rfl) (by decide) (by omega) zns100 (q := 19) rfl ?_
        refine zIf_ne d_X0_doneAs_19 (tgt := 35) (q := 22) (by decide) rfl (fun h19 => ?_) (fun h19 => ?_)
        · have hx : c' = c := by rw [← hx]; exact (if_neg h19).symm
          subst hx
          refine zSub [1, 2, 3, 4, 5, 6, 7] rfl ?_
          exact body
        · refine zIload d_X0_doneAs_22 rfl (q := 24) rfl ?_
          refine zCallSP d_X0_doneAs_24 ml_X0_22 k_X0_above kt_X0_above (sp_X0_above (d := d - 1) (by omega) ) rfl rfl (Nat.le_of_ble_eq_true rfl) (by decide) (by omega) zns100 (q := 27) rfl ?_
          refine zIstore d_X0_doneAs_27 (by decide) rfl (q := 29) rfl ?_
          refine zIinc d_X0_doneAs_29 rfl (zinc _) (by decide) rfl (q := 32) rfl ?_
          refine zGoto d_X0_doneAs_32 (q := 6) (by decide) ?_
          refine zSub [0, 1, 2, 3, 4, 5, 6, 7] rfl ?_
          exact ih2 hlt _ (by rw [hm2, ← hx]; exact (if_pos h19).symm)
    refine zSp_of (lv := [(0, .ref 38), (1, .int k), (2, .int b), (3, .int a), (4, .int x), (5, .int (nI e))]) k_X0_doneAs rfl (Nat.le_of_ble_eq_true rfl) ?_
    refine zIloadN d_X0_doneAs_0 rfl rfl (q := 1) rfl ?_
    refine zIstore d_X0_doneAs_1 (by decide) rfl (q := 3) rfl ?_
    refine zIconst d_X0_doneAs_3 (v := 0) ic_0 (q := 4) rfl ?_
    refine zIstore d_X0_doneAs_4 (by decide) rfl (q := 6) rfl ?_
    refine zSub [0, 1, 2, 3, 4, 5, 6, 7] rfl ?_
    exact loop 0 (Nat.zero_le _) k hc.symm
theorem sp_X0_actOf (hd : 40 ≤ d) {nb : Nat} (hb : I 38 2 = nI nb) (h50 : nb ≤ 50) {b a x v : Int32} {t : List Int32} (ht : t.length < 900)
    (hv : (0 ≤ zKo I b ∧ 0 ≤ a ∧ a < 4) → zDo 12 (zKo I b) (zKo I b) a b x = some (v, t)) (hv0 : ¬ (0 ≤ zKo I b ∧ 0 ≤ a ∧ a < 4) → v = 0 ∧ t = []) :
    zSp g l d 100 m_X0_actOf [.ref 38, .int b, .int a, .int x] (zU I L fs) (zX (fun y w => y = v ∧ w = zU (zTrI (zup I 38 (zup (I 38) 3 0)) 0 t) L fs)) := by
  refine zSp_of (lv := [(0, .ref 38), (1, .int b), (2, .int a), (3, .int x)]) k_X0_actOf rfl (Nat.le_of_ble_eq_true rfl) ?_
  refine zAloadN d_X0_actOf_0 rfl rfl (q := 1) rfl ?_
  refine zIconst d_X0_actOf_1 (v := 0) ic_0 (q := 2) rfl ?_
  refine zPutI d_X0_actOf_2 ff_X0_29 rfl rfl rfl sh_38 (by decide) (q := 5) rfl ?_
  refine zAloadN d_X0_actOf_5 rfl rfl (q := 6) rfl ?_
  refine zIloadN d_X0_actOf_6 rfl rfl (q := 7) rfl ?_
  refine zCallVP d_X0_actOf_7 ml_X0_38 k_X0_kindOf ki_X0_kindOf ks_X0_kindOf (sp_X0_kindOf (d := d - 1) (I := zup I 38 (zup (I 38) 3 0)) (by omega) hb h50) rfl rfl sh_38 (by decide) rfl (by decide) (Nat.le_of_ble_eq_true rfl) (by decide) (by omega) zns100 (q := 10) rfl ?_
  refine zIf_lt d_X0_actOf_10 (tgt := 22) (q := 13) (by decide) rfl (fun h10 => ?_) (fun h10 => ?_)
  · refine zIconst d_X0_actOf_22 (v := 0) ic_0 (q := 23) rfl ?_
    refine zIret d_X0_actOf_23 rfl rfl rfl ?_
    have hn : ¬ (0 ≤ zKo I b ∧ 0 ≤ a ∧ a < 4) := by first | (intro q; have q1 : zKo I b < 0 := h10; grind) | (intro q; grind)
    obtain ⟨rfl, rfl⟩ := hv0 hn
    refine ⟨_, rfl, rfl, ?_⟩
    unfold zTrI
    show zU (zup I 38 (zup (I 38) 3 0)) L fs = zU (zup (zup (zup I 38 (zup (I 38) 3 0)) 40 (I 40)) 38 (zup (zup (I 38) 3 0) 3 (nI 0))) L fs
    rw [zup_zup, zup_comm (show (38 : Nat) ≠ 40 by decide), zup_zup, zup_self]
    rfl
  · refine zIloadN d_X0_actOf_13 rfl rfl (q := 14) rfl ?_
    refine zIf_lt d_X0_actOf_14 (tgt := 22) (q := 17) (by decide) rfl (fun h14 => ?_) (fun h14 => ?_)
    · refine zIconst d_X0_actOf_22 (v := 0) ic_0 (q := 23) rfl ?_
      refine zIret d_X0_actOf_23 rfl rfl rfl ?_
      have hn : ¬ (0 ≤ zKo I b ∧ 0 ≤ a ∧ a < 4) := by first | (intro q; have q1 : zKo I b < 0 := h10; grind) | (intro q; grind)
      obtain ⟨rfl, rfl⟩ := hv0 hn
      refine ⟨_, rfl, rfl, ?_⟩
      unfold zTrI
      show zU (zup I 38 (zup (I 38) 3 0)) L fs = zU (zup (zup (zup I 38 (zup (I 38) 3 0)) 40 (I 40)) 38 (zup (zup (I 38) 3 0) 3 (nI 0))) L fs
      rw [zup_zup, zup_comm (show (38 : Nat) ≠ 40 by decide), zup_zup, zup_self]
      rfl
    · refine zIloadN d_X0_actOf_17 rfl rfl (q := 18) rfl ?_
      refine zIconst d_X0_actOf_18 (v := 4) ic_4 (q := 19) rfl ?_
      refine zIcmp_lt d_X0_actOf_19 (tgt := 24) (q := 22) (by decide) rfl (fun h19 => ?_) (fun h19 => ?_)
      · have eK : zKo (zup I 38 (zup (I 38) 3 0)) b = zKo I b := rfl
        have hq : zDo 12 (zKo I b) (zKo I b) a b x = some (v, t) := hv (by have q1 : ¬ zKo I b < 0 := h10; grind)
        rw [← eK] at hq
        have hS := sp_X0_doneAs (g := g) (l := l) (L := L) (fs := fs) 12 (d - 1 - 1) (zup I 38 (zup (I 38) 3 0)) nb 0 0 (zKo (zup I 38 (zup (I 38) 3 0)) b) (zKo (zup I 38 (zup (I 38) 3 0)) b) b a x v t (by omega) hb h50 rfl (by omega) (by omega) rfl hq
        clear hv hv0 hq
        refine zAloadN d_X0_actOf_24 rfl rfl (q := 25) rfl ?_
        refine zIloadN d_X0_actOf_25 rfl rfl (q := 26) rfl ?_
        refine zIloadN d_X0_actOf_26 rfl rfl (q := 27) rfl ?_
        refine zIloadN d_X0_actOf_27 rfl rfl (q := 28) rfl ?_
        refine zIconst d_X0_actOf_28 (v := 0) ic_0 (q := 29) rfl ?_
        refine zCallVX d_X0_actOf_29 ml_X0_41 k_X0_done ki_X0_done ks_X0_done (sp_X0_done (d := d - 1) (I := zup I 38 (zup (I 38) 3 0)) (by omega) hb h50 hS) rfl rfl sh_38 (by decide) rfl (by decide) (Nat.le_of_ble_eq_true rfl) (by decide) (by omega) zns100 (q := 32) rfl (fun y w' hw' => ?_)
        obtain ⟨rfl, rfl⟩ := hw'
        refine zIret d_X0_actOf_32 rfl rfl rfl ?_
        exact ⟨_, rfl, rfl, rfl⟩
      · refine zIconst d_X0_actOf_22 (v := 0) ic_0 (q := 23) rfl ?_
        refine zIret d_X0_actOf_23 rfl rfl rfl ?_
        have hn : ¬ (0 ≤ zKo I b ∧ 0 ≤ a ∧ a < 4) := by first | (intro q; have q1 : zKo I b < 0 := h10; grind) | (intro q; grind)
        obtain ⟨rfl, rfl⟩ := hv0 hn
        refine ⟨_, rfl, rfl, ?_⟩
        unfold zTrI
        show zU (zup I 38 (zup (I 38) 3 0)) L fs = zU (zup (zup (zup I 38 (zup (I 38) 3 0)) 40 (I 40)) 38 (zup (zup (I 38) 3 0) 3 (nI 0))) L fs
        rw [zup_zup, zup_comm (show (38 : Nat) ≠ 40 by decide), zup_zup, zup_self]
        rfl
end S14
end
section
theorem d_X3_furthestRight_0 : decode (zmc m_X3_furthestRight) 0 = .ok (.iconst 0, 1) := by decide +kernel
theorem d_X3_furthestRight_1 : decode (zmc m_X3_furthestRight) 1 = .ok (.iload_n 1, 1) := by decide +kernel
theorem d_X3_furthestRight_2 : decode (zmc m_X3_furthestRight) 2 = .ok (.iconst 2, 1) := by decide +kernel
theorem d_X3_furthestRight_3 : decode (zmc m_X3_furthestRight) 3 = .ok (.iload_n 0, 1) := by decide +kernel
theorem d_X3_furthestRight_4 : decode (zmc m_X3_furthestRight) 4 = .ok (.imul, 1) := by decide +kernel
theorem d_X3_furthestRight_5 : decode (zmc m_X3_furthestRight) 5 = .ok (.isub, 1) := by decide +kernel
theorem d_X3_furthestRight_6 : decode (zmc m_X3_furthestRight) 6 = .ok (.iload_n 1, 1) := by decide +kernel
theorem d_X3_furthestRight_7 : decode (zmc m_X3_furthestRight) 7 = .ok (.iload_n 0, 1) := by decide +kernel
theorem d_X3_furthestRight_8 : decode (zmc m_X3_furthestRight) 8 = .ok (.isub, 1) := by decide +kernel
theorem d_X3_furthestRight_9 : decode (zmc m_X3_furthestRight) 9 = .ok (.iconst 2, 1) := by decide +kernel
theorem d_X3_furthestRight_10 : decode (zmc m_X3_furthestRight) 10 = .ok (.idiv, 1) := by decide +kernel
theorem d_X3_furthestRight_11 : decode (zmc m_X3_furthestRight) 11 = .ok (.invokestatic 36, 3) := by decide +kernel
theorem d_X3_furthestRight_14 : decode (zmc m_X3_furthestRight) 14 = .ok (.invokestatic 36, 3) := by decide +kernel
theorem d_X3_furthestRight_17 : decode (zmc m_X3_furthestRight) 17 = .ok (.ireturn, 1) := by decide +kernel
theorem d_X3_look_0 : decode (zmc m_X3_look) 0 = .ok (.aload_n 0, 1) := by decide +kernel
theorem d_X3_look_1 : decode (zmc m_X3_look) 1 = .ok (.invokevirtual 19, 3) := by decide +kernel
theorem d_X3_look_4 : decode (zmc m_X3_look) 4 = .ok (.aload_n 0, 1) := by decide +kernel
theorem d_X3_look_5 : decode (zmc m_X3_look) 5 = .ok (.iconst (-1), 1) := by decide +kernel
theorem d_X3_look_6 : decode (zmc m_X3_look) 6 = .ok (.putfield 22, 3) := by decide +kernel
theorem d_X3_look_9 : decode (zmc m_X3_look) 9 = .ok (.aload_n 0, 1) := by decide +kernel
theorem d_X3_look_10 : decode (zmc m_X3_look) 10 = .ok (.iconst 0, 1) := by decide +kernel
theorem d_X3_look_11 : decode (zmc m_X3_look) 11 = .ok (.putfield 26, 3) := by decide +kernel
theorem d_X3_look_14 : decode (zmc m_X3_look) 14 = .ok (.iconst 0, 1) := by decide +kernel
theorem d_X3_look_15 : decode (zmc m_X3_look) 15 = .ok (.istore_n 3, 1) := by decide +kernel
theorem d_X3_look_16 : decode (zmc m_X3_look) 16 = .ok (.iload_n 3, 1) := by decide +kernel
theorem d_X3_look_17 : decode (zmc m_X3_look) 17 = .ok (.iload_n 1, 1) := by decide +kernel
theorem d_X3_look_18 : decode (zmc m_X3_look) 18 = .ok (.if_icmp .gt 50, 3) := by decide +kernel
theorem d_X3_look_21 : decode (zmc m_X3_look) 21 = .ok (.iload_n 3, 1) := by decide +kernel
theorem d_X3_look_22 : decode (zmc m_X3_look) 22 = .ok (.iload_n 2, 1) := by decide +kernel
theorem d_X3_look_23 : decode (zmc m_X3_look) 23 = .ok (.if_icmp .gt 45, 3) := by decide +kernel
theorem d_X3_look_26 : decode (zmc m_X3_look) 26 = .ok (.aload_n 0, 1) := by decide +kernel
theorem d_X3_look_27 : decode (zmc m_X3_look) 27 = .ok (.iload_n 1, 1) := by decide +kernel
theorem d_X3_look_28 : decode (zmc m_X3_look) 28 = .ok (.iload_n 3, 1) := by decide +kernel
theorem d_X3_look_29 : decode (zmc m_X3_look) 29 = .ok (.isub, 1) := by decide +kernel
theorem d_X3_look_30 : decode (zmc m_X3_look) 30 = .ok (.iload_n 1, 1) := by decide +kernel
theorem d_X3_look_31 : decode (zmc m_X3_look) 31 = .ok (.iload_n 3, 1) := by decide +kernel
theorem d_X3_look_32 : decode (zmc m_X3_look) 32 = .ok (.iload_n 2, 1) := by decide +kernel
theorem d_X3_look_33 : decode (zmc m_X3_look) 33 = .ok (.invokestatic 29, 3) := by decide +kernel
theorem d_X3_look_36 : decode (zmc m_X3_look) 36 = .ok (.iadd, 1) := by decide +kernel
theorem d_X3_look_37 : decode (zmc m_X3_look) 37 = .ok (.invokevirtual 33, 3) := by decide +kernel
theorem d_X3_look_40 : decode (zmc m_X3_look) 40 = .ok (.istore 4, 2) := by decide +kernel
theorem d_X3_look_42 : decode (zmc m_X3_look) 42 = .ok (.iload 4, 2) := by decide +kernel
theorem d_X3_look_44 : decode (zmc m_X3_look) 44 = .ok (.aload_n 0, 1) := by decide +kernel
theorem d_X3_look_45 : decode (zmc m_X3_look) 45 = .ok (.getfield 22, 3) := by decide +kernel
theorem d_X3_look_48 : decode (zmc m_X3_look) 48 = .ok (.if_icmp .le 14, 3) := by decide +kernel
theorem d_X3_look_51 : decode (zmc m_X3_look) 51 = .ok (.aload_n 0, 1) := by decide +kernel
theorem d_X3_look_52 : decode (zmc m_X3_look) 52 = .ok (.iload 4, 2) := by decide +kernel
theorem d_X3_look_54 : decode (zmc m_X3_look) 54 = .ok (.putfield 22, 3) := by decide +kernel
theorem d_X3_look_57 : decode (zmc m_X3_look) 57 = .ok (.aload_n 0, 1) := by decide +kernel
theorem d_X3_look_58 : decode (zmc m_X3_look) 58 = .ok (.iload_n 3, 1) := by decide +kernel
theorem d_X3_look_59 : decode (zmc m_X3_look) 59 = .ok (.putfield 26, 3) := by decide +kernel
theorem d_X3_look_62 : decode (zmc m_X3_look) 62 = .ok (.iinc 3 1, 3) := by decide +kernel
theorem d_X3_look_65 : decode (zmc m_X3_look) 65 = .ok (.goto (-49), 3) := by decide +kernel
theorem d_X3_look_68 : decode (zmc m_X3_look) 68 = .ok (.return_, 1) := by decide +kernel
theorem d_X3_spread_0 : decode (zmc m_X3_spread) 0 = .ok (.iconst 0, 1) := by decide +kernel
theorem d_X3_spread_1 : decode (zmc m_X3_spread) 1 = .ok (.istore_n 1, 1) := by decide +kernel
theorem d_X3_spread_2 : decode (zmc m_X3_spread) 2 = .ok (.iload_n 1, 1) := by decide +kernel
theorem d_X3_spread_3 : decode (zmc m_X3_spread) 3 = .ok (.bipush 24, 2) := by decide +kernel
theorem d_X3_spread_5 : decode (zmc m_X3_spread) 5 = .ok (.if_icmp .ge 16, 3) := by decide +kernel
theorem d_X3_spread_8 : decode (zmc m_X3_spread) 8 = .ok (.aload_n 0, 1) := by decide +kernel
theorem d_X3_spread_9 : decode (zmc m_X3_spread) 9 = .ok (.getfield 9, 3) := by decide +kernel
theorem d_X3_spread_12 : decode (zmc m_X3_spread) 12 = .ok (.iload_n 1, 1) := by decide +kernel
theorem d_X3_spread_13 : decode (zmc m_X3_spread) 13 = .ok (.iconst 0, 1) := by decide +kernel
theorem d_X3_spread_14 : decode (zmc m_X3_spread) 14 = .ok (.iastore, 1) := by decide +kernel
theorem d_X3_spread_15 : decode (zmc m_X3_spread) 15 = .ok (.iinc 1 1, 3) := by decide +kernel
theorem d_X3_spread_18 : decode (zmc m_X3_spread) 18 = .ok (.goto (-16), 3) := by decide +kernel
theorem d_X3_spread_21 : decode (zmc m_X3_spread) 21 = .ok (.iconst 0, 1) := by decide +kernel
theorem d_X3_spread_22 : decode (zmc m_X3_spread) 22 = .ok (.istore_n 1, 1) := by decide +kernel
theorem d_X3_spread_23 : decode (zmc m_X3_spread) 23 = .ok (.iload_n 1, 1) := by decide +kernel
theorem d_X3_spread_24 : decode (zmc m_X3_spread) 24 = .ok (.aload_n 0, 1) := by decide +kernel
theorem d_X3_spread_25 : decode (zmc m_X3_spread) 25 = .ok (.getfield 15, 3) := by decide +kernel
theorem d_X3_spread_28 : decode (zmc m_X3_spread) 28 = .ok (.getfield 41, 3) := by decide +kernel
theorem d_X3_spread_31 : decode (zmc m_X3_spread) 31 = .ok (.if_icmp .ge 58, 3) := by decide +kernel
theorem d_X3_spread_34 : decode (zmc m_X3_spread) 34 = .ok (.aload_n 0, 1) := by decide +kernel
theorem d_X3_spread_35 : decode (zmc m_X3_spread) 35 = .ok (.getfield 15, 3) := by decide +kernel
theorem d_X3_spread_38 : decode (zmc m_X3_spread) 38 = .ok (.iload_n 1, 1) := by decide +kernel
theorem d_X3_spread_39 : decode (zmc m_X3_spread) 39 = .ok (.invokevirtual 46, 3) := by decide +kernel
theorem d_X3_spread_42 : decode (zmc m_X3_spread) 42 = .ok (.istore_n 2, 1) := by decide +kernel
theorem d_X3_spread_43 : decode (zmc m_X3_spread) 43 = .ok (.aload_n 0, 1) := by decide +kernel
theorem d_X3_spread_44 : decode (zmc m_X3_spread) 44 = .ok (.getfield 15, 3) := by decide +kernel
theorem d_X3_spread_47 : decode (zmc m_X3_spread) 47 = .ok (.iconst 4, 1) := by decide +kernel
theorem d_X3_spread_48 : decode (zmc m_X3_spread) 48 = .ok (.iload_n 1, 1) := by decide +kernel
theorem d_X3_spread_49 : decode (zmc m_X3_spread) 49 = .ok (.invokevirtual 50, 3) := by decide +kernel
theorem d_X3_spread_52 : decode (zmc m_X3_spread) 52 = .ok (.ifCond .eq 31, 3) := by decide +kernel
theorem d_X3_spread_55 : decode (zmc m_X3_spread) 55 = .ok (.iload_n 2, 1) := by decide +kernel
theorem d_X3_spread_56 : decode (zmc m_X3_spread) 56 = .ok (.ifCond .lt 27, 3) := by decide +kernel
theorem d_X3_spread_59 : decode (zmc m_X3_spread) 59 = .ok (.iload_n 2, 1) := by decide +kernel
theorem d_X3_spread_60 : decode (zmc m_X3_spread) 60 = .ok (.bipush 24, 2) := by decide +kernel
theorem d_X3_spread_62 : decode (zmc m_X3_spread) 62 = .ok (.if_icmp .ge 21, 3) := by decide +kernel
theorem d_X3_spread_65 : decode (zmc m_X3_spread) 65 = .ok (.aload_n 0, 1) := by decide +kernel
theorem d_X3_spread_66 : decode (zmc m_X3_spread) 66 = .ok (.getfield 9, 3) := by decide +kernel
theorem d_X3_spread_69 : decode (zmc m_X3_spread) 69 = .ok (.iload_n 2, 1) := by decide +kernel
theorem d_X3_spread_70 : decode (zmc m_X3_spread) 70 = .ok (.dup2, 1) := by decide +kernel
theorem d_X3_spread_71 : decode (zmc m_X3_spread) 71 = .ok (.iaload, 1) := by decide +kernel
theorem d_X3_spread_72 : decode (zmc m_X3_spread) 72 = .ok (.aload_n 0, 1) := by decide +kernel
theorem d_X3_spread_73 : decode (zmc m_X3_spread) 73 = .ok (.getfield 15, 3) := by decide +kernel
theorem d_X3_spread_76 : decode (zmc m_X3_spread) 76 = .ok (.iconst 1, 1) := by decide +kernel
theorem d_X3_spread_77 : decode (zmc m_X3_spread) 77 = .ok (.iload_n 1, 1) := by decide +kernel
theorem d_X3_spread_78 : decode (zmc m_X3_spread) 78 = .ok (.invokevirtual 50, 3) := by decide +kernel
theorem d_X3_spread_81 : decode (zmc m_X3_spread) 81 = .ok (.iadd, 1) := by decide +kernel
theorem d_X3_spread_82 : decode (zmc m_X3_spread) 82 = .ok (.iastore, 1) := by decide +kernel
theorem d_X3_spread_83 : decode (zmc m_X3_spread) 83 = .ok (.iinc 1 1, 3) := by decide +kernel
theorem d_X3_spread_86 : decode (zmc m_X3_spread) 86 = .ok (.goto (-63), 3) := by decide +kernel
theorem d_X3_spread_89 : decode (zmc m_X3_spread) 89 = .ok (.return_, 1) := by decide +kernel
theorem d_X3_sumOf_0 : decode (zmc m_X3_sumOf) 0 = .ok (.iconst 0, 1) := by decide +kernel
theorem d_X3_sumOf_1 : decode (zmc m_X3_sumOf) 1 = .ok (.istore_n 3, 1) := by decide +kernel
theorem d_X3_sumOf_2 : decode (zmc m_X3_sumOf) 2 = .ok (.iconst 0, 1) := by decide +kernel
theorem d_X3_sumOf_3 : decode (zmc m_X3_sumOf) 3 = .ok (.iload_n 1, 1) := by decide +kernel
theorem d_X3_sumOf_4 : decode (zmc m_X3_sumOf) 4 = .ok (.invokestatic 36, 3) := by decide +kernel
theorem d_X3_sumOf_7 : decode (zmc m_X3_sumOf) 7 = .ok (.istore 4, 2) := by decide +kernel
theorem d_X3_sumOf_9 : decode (zmc m_X3_sumOf) 9 = .ok (.iload 4, 2) := by decide +kernel
theorem d_X3_sumOf_11 : decode (zmc m_X3_sumOf) 11 = .ok (.iload_n 2, 1) := by decide +kernel
theorem d_X3_sumOf_12 : decode (zmc m_X3_sumOf) 12 = .ok (.if_icmp .gt 26, 3) := by decide +kernel
theorem d_X3_sumOf_15 : decode (zmc m_X3_sumOf) 15 = .ok (.iload 4, 2) := by decide +kernel
theorem d_X3_sumOf_17 : decode (zmc m_X3_sumOf) 17 = .ok (.bipush 24, 2) := by decide +kernel
theorem d_X3_sumOf_19 : decode (zmc m_X3_sumOf) 19 = .ok (.if_icmp .ge 19, 3) := by decide +kernel
theorem d_X3_sumOf_22 : decode (zmc m_X3_sumOf) 22 = .ok (.iload_n 3, 1) := by decide +kernel
theorem d_X3_sumOf_23 : decode (zmc m_X3_sumOf) 23 = .ok (.aload_n 0, 1) := by decide +kernel
theorem d_X3_sumOf_24 : decode (zmc m_X3_sumOf) 24 = .ok (.getfield 9, 3) := by decide +kernel
theorem d_X3_sumOf_27 : decode (zmc m_X3_sumOf) 27 = .ok (.iload 4, 2) := by decide +kernel
theorem d_X3_sumOf_29 : decode (zmc m_X3_sumOf) 29 = .ok (.iaload, 1) := by decide +kernel
theorem d_X3_sumOf_30 : decode (zmc m_X3_sumOf) 30 = .ok (.iadd, 1) := by decide +kernel
theorem d_X3_sumOf_31 : decode (zmc m_X3_sumOf) 31 = .ok (.istore_n 3, 1) := by decide +kernel
theorem d_X3_sumOf_32 : decode (zmc m_X3_sumOf) 32 = .ok (.iinc 4 1, 3) := by decide +kernel
theorem d_X3_sumOf_35 : decode (zmc m_X3_sumOf) 35 = .ok (.goto (-26), 3) := by decide +kernel
theorem d_X3_sumOf_38 : decode (zmc m_X3_sumOf) 38 = .ok (.iload_n 3, 1) := by decide +kernel
theorem d_X3_sumOf_39 : decode (zmc m_X3_sumOf) 39 = .ok (.ireturn, 1) := by decide +kernel
/-! THE FINDER -/
def zZero32 (f : Nat → Int32) (n k : Nat) : Nat → Int32 := zfor (fun k f => zup f k 0) n k f
def zSprS (I : Nat → Nat → Int32) (k : Nat) (f : Nat → Int32) : Nat → Int32 := if I 7 k = 0 ∨ zPlace I k < 0 ∨ 24 ≤ zPlace I k then f else zup f (zPlace I k).toNatClampNeg (f (zPlace I k).toNatClampNeg + I 4 k)
def zSpr (I : Nat → Nat → Int32) (ns : Nat) : Nat → Int32 := zfor (zSprS I) ns 0 (zZero32 (I 23) 24 0)
def zSumB (B : Nat → Int32) (a b : Nat) : Int32 := zfor (fun p s => s + B p) (min (b + 1) 24) a 0
def zFar (b t : Nat) : Nat := max (t - 2 * b) ((t - b) / 2)
def zWalkS (B : Nat → Int32) (p t : Nat) (b : Nat) (s : Int32 × Int32) : Int32 × Int32 := if s.1 < zSumB B (p - b) (p + zFar b t) then (zSumB B (p - b) (p + zFar b t), nI b) else s
def zWalk (B : Nat → Int32) (p t : Nat) : Int32 × Int32 := zfor (zWalkS B p t) (min p t + 1) 0 (-1, 0)
section S15
variable {g : zG} {l : Launch} {d : Nat} {I : Nat → Nat → Int32} {L : Nat → Nat → Int64} {fs : Nat × Nat × Option Nat} {ns nt nh : Nat}
theorem zPlace_up {f : Nat → Int32} {k : Nat} : zPlace (zup I 23 f) k = zPlace I k := rfl
theorem sp_X3_spread (hd : 5 ≤ d) (hK : zSky I ns nt nh) : zSp g l d 100 m_X3_spread [.ref 22] (zU I L fs) (zV (fun w => w = zU (zup I 23 (zSpr I ns)) L fs)) := by
  have hn := hK.2.1
  have loop2 : ∀ k, k ≤ ns → ∀ f (v2 : List (Nat × Value)), zfor (zSprS I) ns k f = zSpr I ns → zA g l d m_X3_spread (zup I 23 f) L fs 23 [(1, .int (nI k)), (0, .ref 22)] (zV (fun w => w = zU (zup I 23 (zSpr I ns)) L fs)) := by
    refine zloop ns (fun k hk ih f v2 hx => ?_)
    have hK1 := zSky_up (a := 23) (f := f) hK (by decide)
    refine zIloadN d_X3_spread_23 rfl rfl (q := 24) rfl ?_
    refine zAloadN d_X3_spread_24 rfl rfl (q := 25) rfl ?_
    refine zGetR d_X3_spread_25 ff_X3_15 sh_22 (by decide) r_22_0 (q := 28) rfl ?_
    refine zGetI d_X3_spread_28 ff_X3_41 sh_1 (by decide) (q := 31) rfl ?_
    refine zIcmp_ge d_X3_spread_31 (tgt := 89) (q := 34) (by decide) rfl (fun h31 => ?_) (fun h31 => ?_)
    · have e := nle (hK1.1.1 ▸ h31)
      have ef : f = zSpr I ns := by rw [← hx, zfor_end e]
      refine zVret d_X3_spread_89 rfl rfl ?_
      exact ⟨rfl, by rw [ef]⟩
    · have hlt := nnle (hK1.1.1 ▸ h31)
      rw [zfor_step hlt] at hx
      refine zAloadN d_X3_spread_34 rfl rfl (q := 35) rfl ?_
      refine zGetR d_X3_spread_35 ff_X3_15 sh_22 (by decide) r_22_0 (q := 38) rfl ?_
      refine zIloadN d_X3_spread_38 rfl rfl (q := 39) rfl ?_
      refine zCallVP d_X3_spread_39 ml_X3_46 k_X9_placeOnSand ki_X9_placeOnSand ks_X9_placeOnSand (sp_X9_placeOnSand (d := d - 1) (by omega) hK1 hlt) rfl rfl sh_1 (by decide) rfl (by decide) (Nat.le_of_ble_eq_true rfl) (by decide) (by omega) zns100 (q := 42) rfl ?_
      refine zIstoreN d_X3_spread_42 rfl (by decide) rfl (q := 43) rfl ?_
      refine zAloadN d_X3_spread_43 rfl rfl (q := 44) rfl ?_
      refine zGetR d_X3_spread_44 ff_X3_15 sh_22 (by decide) r_22_0 (q := 47) rfl ?_
      refine zIconst d_X3_spread_47 (v := 4) ic_4 (q := 48) rfl ?_
      refine zIloadN d_X3_spread_48 rfl rfl (q := 49) rfl ?_
      refine zCallVP d_X3_spread_49 ml_X3_50 k_X9_get ki_X9_get ks_X9_get (sp_get4 (d := d - 1) (by omega) hK1 hlt) rfl rfl sh_1 (by decide) rfl (by decide) (Nat.le_of_ble_eq_true rfl) (by decide) (by omega) zns100 (q := 52) rfl ?_
      refine zIf_eq d_X3_spread_52 (tgt := 83) (q := 55) (by decide) rfl (fun h52 => ?_) (fun h52 => ?_)
      · try rw [zup_zup, zup_eq]
        refine zIinc d_X3_spread_83 rfl (zinc _) (by decide) rfl (q := 86) rfl ?_
        refine zGoto d_X3_spread_86 (q := 23) (by decide) ?_
        refine zSub [0, 2] rfl ?_
        refine ih hlt _ [] ?_
        rw [← hx]
        congr 1
        unfold zSprS
        first | exact (if_pos (Or.inl h52)).symm | exact (if_pos (Or.inr (Or.inl h56))).symm | exact (if_pos (Or.inr (Or.inr h62))).symm | (rw [if_neg (by rintro (q | q | q); exact h52 q; exact h56 q; exact h62 q), hp, zcl_n (by omega)]; rfl)
      · refine zIloadN d_X3_spread_55 rfl rfl (q := 56) rfl ?_
        refine zIf_lt d_X3_spread_56 (tgt := 83) (q := 59) (by decide) rfl (fun h56 => ?_) (fun h56 => ?_)
        · try rw [zup_zup, zup_eq]
          refine zIinc d_X3_spread_83 rfl (zinc _) (by decide) rfl (q := 86) rfl ?_
          refine zGoto d_X3_spread_86 (q := 23) (by decide) ?_
          refine zSub [0, 2] rfl ?_
          refine ih hlt _ [] ?_
          rw [← hx]
          congr 1
          unfold zSprS
          first | exact (if_pos (Or.inl h52)).symm | exact (if_pos (Or.inr (Or.inl h56))).symm | exact (if_pos (Or.inr (Or.inr h62))).symm | (rw [if_neg (by rintro (q | q | q); exact h52 q; exact h56 q; exact h62 q), hp, zcl_n (by omega)]; rfl)
        · refine zIloadN d_X3_spread_59 rfl rfl (q := 60) rfl ?_
          refine zBipush d_X3_spread_60 (v := 24) bc_24 (q := 62) rfl ?_
          refine zIcmp_ge d_X3_spread_62 (tgt := 83) (q := 65) (by decide) rfl (fun h62 => ?_) (fun h62 => ?_)
          · try rw [zup_zup, zup_eq]
            refine zIinc d_X3_spread_83 rfl (zinc _) (by decide) rfl (q := 86) rfl ?_
            refine zGoto d_X3_spread_86 (q := 23) (by decide) ?_
            refine zSub [0, 2] rfl ?_
            refine ih hlt _ [] ?_
            rw [← hx]
            congr 1
            unfold zSprS
            first | exact (if_pos (Or.inl h52)).symm | exact (if_pos (Or.inr (Or.inl h56))).symm | exact (if_pos (Or.inr (Or.inr h62))).symm | (rw [if_neg (by rintro (q | q | q); exact h52 q; exact h56 q; exact h62 q), hp, zcl_n (by omega)]; rfl)
          · have h56' : ¬ zPlace I k < 0 := h56
            have h62' : ¬ 24 ≤ zPlace I k := h62
            obtain ⟨j, hj, hp⟩ := zn1 (x := zPlace I k) (n := 24) (by omega) (by grind) (by have : nI 24 = 24 := rfl; grind)
            refine zAloadN d_X3_spread_65 rfl rfl (q := 66) rfl ?_
            refine zGetR d_X3_spread_66 ff_X3_9 sh_22 (by decide) r_22_1 (q := 69) rfl ?_
            refine zIloadN d_X3_spread_69 rfl rfl (q := 70) rfl ?_
            refine zDup2 d_X3_spread_70 rfl rfl (q := 71) rfl ?_
            refine zIald d_X3_spread_71 sh_23 (by decide) hp hj (q := 72) rfl ?_
            refine zAloadN d_X3_spread_72 rfl rfl (q := 73) rfl ?_
            refine zGetR d_X3_spread_73 ff_X3_15 sh_22 (by decide) r_22_0 (q := 76) rfl ?_
            refine zIconst d_X3_spread_76 (v := 1) ic_1 (q := 77) rfl ?_
            refine zIloadN d_X3_spread_77 rfl rfl (q := 78) rfl ?_
            refine zCallVP d_X3_spread_78 ml_X3_50 k_X9_get ki_X9_get ks_X9_get (sp_get1 (d := d - 1) (by omega) hK1 hlt) rfl rfl sh_1 (by decide) rfl (by decide) (Nat.le_of_ble_eq_true rfl) (by decide) (by omega) zns100 (q := 81) rfl ?_
            refine zIadd d_X3_spread_81 (q := 82) rfl ?_
            refine zIast d_X3_spread_82 sh_23 (by decide) hp hj (q := 83) rfl ?_
            try rw [zup_zup, zup_eq]
            refine zIinc d_X3_spread_83 rfl (zinc _) (by decide) rfl (q := 86) rfl ?_
            refine zGoto d_X3_spread_86 (q := 23) (by decide) ?_
            refine zSub [0, 2] rfl ?_
            refine ih hlt _ [] ?_
            rw [← hx]
            congr 1
            unfold zSprS
            first | exact (if_pos (Or.inl h52)).symm | exact (if_pos (Or.inr (Or.inl h56))).symm | exact (if_pos (Or.inr (Or.inr h62))).symm | (rw [if_neg (by rintro (q | q | q); exact h52 q; exact h56 q; exact h62 q), hp, zcl_n (by omega)]; rfl)
  have loop1 : ∀ k, k ≤ 24 → ∀ f, zZero32 f 24 k = zZero32 (I 23) 24 0 → zA g l d m_X3_spread (zup I 23 f) L fs 2 [(1, .int (nI k)), (0, .ref 22)] (zV (fun w => w = zU (zup I 23 (zSpr I ns)) L fs)) := by
    refine zloop 24 (fun k hk ih f hx => ?_)
    unfold zZero32 at hx
    refine zIloadN d_X3_spread_2 rfl rfl (q := 3) rfl ?_
    refine zBipush d_X3_spread_3 (v := 24) bc_24 (q := 5) rfl ?_
    refine zIcmp_ge d_X3_spread_5 (tgt := 21) (q := 8) (by decide) rfl (fun h5 => ?_) (fun h5 => ?_)
    · have e := nle (b := 24) h5
      have ef : f = zZero32 (I 23) 24 0 := (zfor_end e).symm.trans hx
      refine zIconst d_X3_spread_21 (v := 0) ic_0 (q := 22) rfl ?_
      refine zIstoreN d_X3_spread_22 rfl (by decide) rfl (q := 23) rfl ?_
      refine zSub [0, 1] rfl ?_
      exact loop2 0 (Nat.zero_le _) f [] (by rw [ef]; rfl)
    · have hlt := nnle (b := 24) h5
      rw [zfor_step hlt] at hx
      refine zAloadN d_X3_spread_8 rfl rfl (q := 9) rfl ?_
      refine zGetR d_X3_spread_9 ff_X3_9 sh_22 (by decide) r_22_1 (q := 12) rfl ?_
      refine zIloadN d_X3_spread_12 rfl rfl (q := 13) rfl ?_
      refine zIconst d_X3_spread_13 (v := 0) ic_0 (q := 14) rfl ?_
      refine zIast d_X3_spread_14 sh_23 (by decide) rfl (by omega) (q := 15) rfl ?_
      rw [zup_zup, zup_eq]
      refine zIinc d_X3_spread_15 rfl (zinc _) (by decide) rfl (q := 18) rfl ?_
      refine zGoto d_X3_spread_18 (q := 2) (by decide) ?_
      refine zSub [0, 1] rfl ?_
      exact ih hlt _ hx
  have h0 := loop1 0 (Nat.zero_le _) (I 23) rfl
  rw [zup_self] at h0
  refine zSp_of (lv := [(0, .ref 22)]) k_X3_spread rfl (Nat.le_of_ble_eq_true rfl) ?_
  refine zIconst d_X3_spread_0 (v := 0) ic_0 (q := 1) rfl ?_
  refine zIstoreN d_X3_spread_1 rfl (by decide) rfl (q := 2) rfl ?_
  refine zSub [0, 1] rfl ?_
  exact h0
theorem sp_X3_furthestRight (hd : 1 ≤ d) {b t : Nat} (hb : b ≤ t) (ht : t ≤ 40) : zPure g l d m_X3_furthestRight [.int (nI b), .int (nI t)] I L fs (.int (nI (zFar b t))) := by
  have e1 : (nI t - nI b) / 2 = nI ((t - b) / 2) := by rw [pk_sub hb]; exact pk_div (d := 2) (by omega) (by omega) (by omega)
  have e2 : (2 : Int32) * nI b = nI (2 * b) := by rw [← pk_mul]; rfl
  have e3 : (0 : Int32) = nI 0 := rfl
  refine zSp_of (lv := [(0, .int (nI b)), (1, .int (nI t))]) k_X3_furthestRight rfl (Nat.le_of_ble_eq_true rfl) ?_
  refine zIconst d_X3_furthestRight_0 (v := 0) ic_0 (q := 1) rfl ?_
  refine zIloadN d_X3_furthestRight_1 rfl rfl (q := 2) rfl ?_
  refine zIconst d_X3_furthestRight_2 (v := 2) ic_2 (q := 3) rfl ?_
  refine zIloadN d_X3_furthestRight_3 rfl rfl (q := 4) rfl ?_
  refine zImul d_X3_furthestRight_4 (q := 5) rfl ?_
  refine zIsub d_X3_furthestRight_5 (q := 6) rfl ?_
  refine zIloadN d_X3_furthestRight_6 rfl rfl (q := 7) rfl ?_
  refine zIloadN d_X3_furthestRight_7 rfl rfl (q := 8) rfl ?_
  refine zIsub d_X3_furthestRight_8 (q := 9) rfl ?_
  refine zIconst d_X3_furthestRight_9 (v := 2) ic_2 (q := 10) rfl ?_
  refine zIdiv d_X3_furthestRight_10 (by decide) (q := 11) rfl ?_
  rw [e1, e2]
  refine zMax d_X3_furthestRight_11 ml_X3_36 (by omega) (Nat.le_of_ble_eq_true rfl) ⟨Nat.le_refl _, Nat.le_refl _⟩ (q := 14) rfl ?_
  refine zMax d_X3_furthestRight_14 ml_X3_36 (by omega) (Nat.le_of_ble_eq_true rfl) ⟨Nat.le_refl _, Nat.le_refl _⟩ (q := 17) rfl ?_
  refine zIret d_X3_furthestRight_17 rfl rfl rfl ?_
  refine zPi ?_
  unfold zFar
  by_cases q : 2 * b ≤ t
  · rw [pk_sub q, e3]
    by_cases q2 : nI (t - 2 * b) < nI ((t - b) / 2)
    · have h2 := nlt q2
      rw [if_pos q2]
      by_cases q3 : nI 0 < nI ((t - b) / 2)
      · rw [if_pos q3, Nat.max_eq_right (by omega)]
      · rw [if_neg q3]; have := nnlt q3; rw [Nat.max_eq_right (by omega)]; congr 1; omega
    · have h2 := nnlt q2
      rw [if_neg q2]
      by_cases q3 : nI 0 < nI (t - 2 * b)
      · rw [if_pos q3, Nat.max_eq_left (by omega)]
      · rw [if_neg q3]; have := nnlt q3; rw [Nat.max_eq_left (by omega)]; congr 1; omega
  · have hneg : nI t - nI (2 * b) < 0 := pk_sneg (by omega) (by omega)
    have h0 : (0 : Int32) ≤ nI ((t - b) / 2) := zn_ge (by omega)
    have q2 : nI t - nI (2 * b) < nI ((t - b) / 2) := by grind
    rw [if_pos q2, e3]
    by_cases q3 : nI 0 < nI ((t - b) / 2)
    · rw [if_pos q3, Nat.max_eq_right (by omega)]
    · rw [if_neg q3]; have := nnlt q3; rw [Nat.max_eq_right (by omega)]; congr 1; omega
theorem sp_X3_sumOf (hd : 1 ≤ d) {a b : Nat} (ha : a ≤ 24) (hb : b ≤ 100) : zPure g l d m_X3_sumOf [.ref 22, .int (nI a), .int (nI b)] I L fs (.int (zSumB (I 23) a b)) := by
  have loop : ∀ k, k ≤ max a (min (b + 1) 24) → a ≤ k → ∀ s, zfor (fun p s => s + I 23 p) (min (b + 1) 24) k s = zSumB (I 23) a b → zA g l d m_X3_sumOf I L fs 9 [(4, .int (nI k)), (3, .int s), (0, .ref 22), (1, .int (nI a)), (2, .int (nI b))] (zP (.int (zSumB (I 23) a b)) (zU I L fs)) := by
    refine zloop (max a (min (b + 1) 24)) (fun k hk ih hak s hx => ?_)
    refine zIload d_X3_sumOf_9 rfl (q := 11) rfl ?_
    refine zIloadN d_X3_sumOf_11 rfl rfl (q := 12) rfl ?_
    refine zIcmp_gt d_X3_sumOf_12 (tgt := 38) (q := 15) (by decide) rfl (fun h12 => ?_) (fun h12 => ?_)
    · have e := nlt h12
      have e2 : min (b + 1) 24 ≤ k := by omega
      refine zIloadN d_X3_sumOf_38 rfl rfl (q := 39) rfl ?_
      refine zIret d_X3_sumOf_39 rfl rfl rfl ?_
      exact zPi (by rw [← hx, zfor_end e2])
    · refine zIload d_X3_sumOf_15 rfl (q := 17) rfl ?_
      refine zBipush d_X3_sumOf_17 (v := 24) bc_24 (q := 19) rfl ?_
      refine zIcmp_ge d_X3_sumOf_19 (tgt := 38) (q := 22) (by decide) rfl (fun h19 => ?_) (fun h19 => ?_)
      · have e := nle (b := 24) h19
        have e2 : min (b + 1) 24 ≤ k := by omega
        refine zIloadN d_X3_sumOf_38 rfl rfl (q := 39) rfl ?_
        refine zIret d_X3_sumOf_39 rfl rfl rfl ?_
        exact zPi (by rw [← hx, zfor_end e2])
      · have h1 := nnlt h12
        have h2 := nnle (b := 24) h19
        rw [zfor_step (by omega)] at hx
        refine zIloadN d_X3_sumOf_22 rfl rfl (q := 23) rfl ?_
        refine zAloadN d_X3_sumOf_23 rfl rfl (q := 24) rfl ?_
        refine zGetR d_X3_sumOf_24 ff_X3_9 sh_22 (by decide) r_22_1 (q := 27) rfl ?_
        refine zIload d_X3_sumOf_27 rfl (q := 29) rfl ?_
        refine zIald d_X3_sumOf_29 sh_23 (by decide) rfl (by omega) (q := 30) rfl ?_
        refine zIadd d_X3_sumOf_30 (q := 31) rfl ?_
        refine zIstoreN d_X3_sumOf_31 rfl (by decide) rfl (q := 32) rfl ?_
        refine zIinc d_X3_sumOf_32 rfl (zinc _) (by decide) rfl (q := 35) rfl ?_
        refine zGoto d_X3_sumOf_35 (q := 9) (by decide) ?_
        refine zSub [0, 1, 2, 3, 4] rfl ?_
        exact ih (by omega) (by omega) _ hx
  have hm : (if 0 < nI a then nI a else 0) = nI a := by
    by_cases q : 0 < nI a
    · rw [if_pos q]
    · rw [if_neg q]
      have := nnlt (a := 0) q
      rw [show a = 0 by omega]; rfl
  refine zSp_of (lv := [(0, .ref 22), (1, .int (nI a)), (2, .int (nI b))]) k_X3_sumOf rfl (Nat.le_of_ble_eq_true rfl) ?_
  refine zIconst d_X3_sumOf_0 (v := 0) ic_0 (q := 1) rfl ?_
  refine zIstoreN d_X3_sumOf_1 rfl (by decide) rfl (q := 2) rfl ?_
  refine zIconst d_X3_sumOf_2 (v := 0) ic_0 (q := 3) rfl ?_
  refine zIloadN d_X3_sumOf_3 rfl rfl (q := 4) rfl ?_
  refine zMax d_X3_sumOf_4 ml_X3_36 (by omega) (Nat.le_of_ble_eq_true rfl) ⟨Nat.le_refl _, Nat.le_refl _⟩ (q := 7) rfl ?_
  rw [hm]
  refine zIstore d_X3_sumOf_7 (by decide) rfl (q := 9) rfl ?_
  refine zSub [0, 1, 2, 3, 4] rfl ?_
  exact loop a (by omega) (Nat.le_refl _) 0 rfl
theorem sp_X3_look (hd : 6 ≤ d) (hK : zSky I ns nt nh) {p t : Nat} (hp : p < 24) (ht : t ≤ 40) : zSp g l d 100 m_X3_look [.ref 22, .int (nI p), .int (nI t)] (zU I L fs) (zV (fun w => w = zU (zup (zup I 23 (zSpr I ns)) 22 (zup (zup (I 22) 2 (zWalk (zSpr I ns) p t).1) 3 (zWalk (zSpr I ns) p t).2)) L fs)) := by
  have loop : ∀ k, k ≤ min p t + 1 → ∀ s, zfor (zWalkS (zSpr I ns) p t) (min p t + 1) k s = zWalk (zSpr I ns) p t → zA g l d m_X3_look (zup (zup I 23 (zSpr I ns)) 22 (zup (zup (I 22) 2 s.1) 3 s.2)) L fs 16 [(3, .int (nI k)), (0, .ref 22), (1, .int (nI p)), (2, .int (nI t))] (zV (fun w => w = zU (zup (zup I 23 (zSpr I ns)) 22 (zup (zup (I 22) 2 (zWalk (zSpr I ns) p t).1) 3 (zWalk (zSpr I ns) p t).2)) L fs)) := by
    refine zloop (min p t + 1) (fun k hk ih s hx => ?_)
    refine zIloadN d_X3_look_16 rfl rfl (q := 17) rfl ?_
    refine zIloadN d_X3_look_17 rfl rfl (q := 18) rfl ?_
    refine zIcmp_gt d_X3_look_18 (tgt := 68) (q := 21) (by decide) rfl (fun h18 => ?_) (fun h18 => ?_)
    · have e := nlt h18
      have e2 : min p t + 1 ≤ k := by omega
      refine zVret d_X3_look_68 rfl rfl ?_
      exact ⟨rfl, by rw [← hx, zfor_end e2]⟩
    · refine zIloadN d_X3_look_21 rfl rfl (q := 22) rfl ?_
      refine zIloadN d_X3_look_22 rfl rfl (q := 23) rfl ?_
      refine zIcmp_gt d_X3_look_23 (tgt := 68) (q := 26) (by decide) rfl (fun h23 => ?_) (fun h23 => ?_)
      · have e := nlt h23
        have e2 : min p t + 1 ≤ k := by omega
        refine zVret d_X3_look_68 rfl rfl ?_
        exact ⟨rfl, by rw [← hx, zfor_end e2]⟩
      · have h1 := nnlt h18
        have h2 := nnlt h23
        rw [zfor_step (by omega)] at hx
        refine zAloadN d_X3_look_26 rfl rfl (q := 27) rfl ?_
        refine zIloadN d_X3_look_27 rfl rfl (q := 28) rfl ?_
        refine zIloadN d_X3_look_28 rfl rfl (q := 29) rfl ?_
        refine zIsub d_X3_look_29 (q := 30) rfl ?_
        refine zIloadN d_X3_look_30 rfl rfl (q := 31) rfl ?_
        refine zIloadN d_X3_look_31 rfl rfl (q := 32) rfl ?_
        refine zIloadN d_X3_look_32 rfl rfl (q := 33) rfl ?_
        refine zCallSP d_X3_look_33 ml_X3_29 k_X3_furthestRight kt_X3_furthestRight (sp_X3_furthestRight (d := d - 1) (by omega) h2 ht) rfl rfl (Nat.le_of_ble_eq_true rfl) (by decide) (by omega) zns100 (q := 36) rfl ?_
        refine zIadd d_X3_look_36 (q := 37) rfl ?_
        rw [pk_sub h1, nI_add]
        refine zCallVP d_X3_look_37 ml_X3_33 k_X3_sumOf ki_X3_sumOf ks_X3_sumOf (sp_X3_sumOf (d := d - 1) (by omega) (a := p - k) (b := p + zFar k t) (by omega) (by unfold zFar; omega)) rfl rfl sh_22 (by decide) rfl (by decide) (Nat.le_of_ble_eq_true rfl) (by decide) (by omega) zns100 (q := 40) rfl ?_
        rw [show (zup (zup I 23 (zSpr I ns)) 22 (zup (zup (I 22) 2 s.1) 3 s.2)) 23 = zSpr I ns from rfl]
        refine zIstore d_X3_look_40 (by decide) rfl (q := 42) rfl ?_
        refine zIload d_X3_look_42 rfl (q := 44) rfl ?_
        refine zAloadN d_X3_look_44 rfl rfl (q := 45) rfl ?_
        refine zGetI d_X3_look_45 ff_X3_22 sh_22 (by decide) (q := 48) rfl ?_
        refine zIcmp_le d_X3_look_48 (tgt := 62) (q := 51) (by decide) rfl (fun h48 => ?_) (fun h48 => ?_)
        · have e : zWalkS (zSpr I ns) p t k s = s := by unfold zWalkS; rw [if_neg (by have q : zSumB (zSpr I ns) (p - k) (p + zFar k t) ≤ s.1 := h48; grind)]
          rw [e] at hx
          refine zIinc d_X3_look_62 rfl (zinc _) (by decide) rfl (q := 65) rfl ?_
          refine zGoto d_X3_look_65 (q := 16) (by decide) ?_
          refine zSub [0, 2, 3, 4] rfl ?_
          first | exact ih (by omega) _ hx | (rw [zup_zup, zup_eq, zup_zup, zup_eq]; refine (?_ : zA g l d m_X3_look (zup (zup I 23 (zSpr I ns)) 22 (zup (zup (zup (zup (I 22) 2 s.1) 3 s.2) 2 (zSumB (zSpr I ns) (p - k) (p + zFar k t))) 3 (nI k))) L fs 16 _ _); rw [zup_3 (show (2 : Nat) ≠ 3 by decide), zup_zup]; exact ih (by omega) _ hx)
        · have e : zWalkS (zSpr I ns) p t k s = (zSumB (zSpr I ns) (p - k) (p + zFar k t), nI k) := by unfold zWalkS; rw [if_pos (by have q : ¬ zSumB (zSpr I ns) (p - k) (p + zFar k t) ≤ s.1 := h48; grind)]
          rw [e] at hx
          refine zAloadN d_X3_look_51 rfl rfl (q := 52) rfl ?_
          refine zIload d_X3_look_52 rfl (q := 54) rfl ?_
          refine zPutI d_X3_look_54 ff_X3_22 rfl rfl rfl sh_22 (by decide) (q := 57) rfl ?_
          refine zAloadN d_X3_look_57 rfl rfl (q := 58) rfl ?_
          refine zIloadN d_X3_look_58 rfl rfl (q := 59) rfl ?_
          refine zPutI d_X3_look_59 ff_X3_26 rfl rfl rfl sh_22 (by decide) (q := 62) rfl ?_
          refine zIinc d_X3_look_62 rfl (zinc _) (by decide) rfl (q := 65) rfl ?_
          refine zGoto d_X3_look_65 (q := 16) (by decide) ?_
          refine zSub [0, 2, 3, 4] rfl ?_
          first | exact ih (by omega) _ hx | (rw [zup_zup, zup_eq, zup_zup, zup_eq]; refine (?_ : zA g l d m_X3_look (zup (zup I 23 (zSpr I ns)) 22 (zup (zup (zup (zup (I 22) 2 s.1) 3 s.2) 2 (zSumB (zSpr I ns) (p - k) (p + zFar k t))) 3 (nI k))) L fs 16 _ _); rw [zup_3 (show (2 : Nat) ≠ 3 by decide), zup_zup]; exact ih (by omega) _ hx)
  refine zSp_of (lv := [(0, .ref 22), (1, .int (nI p)), (2, .int (nI t))]) k_X3_look rfl (Nat.le_of_ble_eq_true rfl) ?_
  refine zAloadN d_X3_look_0 rfl rfl (q := 1) rfl ?_
  refine zCallVV d_X3_look_1 ml_X3_19 k_X3_spread ki_X3_spread ks_X3_spread (sp_X3_spread (d := d - 1) (by omega) hK) rfl rfl sh_22 (by decide) rfl (by decide) (Nat.le_of_ble_eq_true rfl) (by decide) (by omega) zns100 (q := 4) rfl (fun w' hw' => ?_)
  subst hw'
  refine zAloadN d_X3_look_4 rfl rfl (q := 5) rfl ?_
  refine zIconst d_X3_look_5 (v := -1) ic_m1 (q := 6) rfl ?_
  refine zPutI d_X3_look_6 ff_X3_22 rfl rfl rfl sh_22 (by decide) (q := 9) rfl ?_
  refine zAloadN d_X3_look_9 rfl rfl (q := 10) rfl ?_
  refine zIconst d_X3_look_10 (v := 0) ic_0 (q := 11) rfl ?_
  refine zPutI d_X3_look_11 ff_X3_26 rfl rfl rfl sh_22 (by decide) (q := 14) rfl ?_
  rw [zup_zup, zup_eq]
  refine zIconst d_X3_look_14 (v := 0) ic_0 (q := 15) rfl ?_
  refine zIstoreN d_X3_look_15 rfl (by decide) rfl (q := 16) rfl ?_
  refine zSub [0, 1, 2, 3] rfl ?_
  exact loop 0 (Nat.zero_le _) (-1, 0) rfl
end S15
end
section
theorem d_X2_findMoves_0 : decode (zmc m_X2_findMoves) 0 = .ok (.aload_n 0, 1) := by decide +kernel
theorem d_X2_findMoves_1 : decode (zmc m_X2_findMoves) 1 = .ok (.iconst 0, 1) := by decide +kernel
theorem d_X2_findMoves_2 : decode (zmc m_X2_findMoves) 2 = .ok (.putfield 38, 3) := by decide +kernel
theorem d_X2_findMoves_5 : decode (zmc m_X2_findMoves) 5 = .ok (.aload_n 0, 1) := by decide +kernel
theorem d_X2_findMoves_6 : decode (zmc m_X2_findMoves) 6 = .ok (.iconst 0, 1) := by decide +kernel
theorem d_X2_findMoves_7 : decode (zmc m_X2_findMoves) 7 = .ok (.putfield 41, 3) := by decide +kernel
theorem d_X2_findMoves_10 : decode (zmc m_X2_findMoves) 10 = .ok (.bipush (-5), 2) := by decide +kernel
theorem d_X2_findMoves_12 : decode (zmc m_X2_findMoves) 12 = .ok (.istore_n 1, 1) := by decide +kernel
theorem d_X2_findMoves_13 : decode (zmc m_X2_findMoves) 13 = .ok (.iload_n 1, 1) := by decide +kernel
theorem d_X2_findMoves_14 : decode (zmc m_X2_findMoves) 14 = .ok (.iconst 5, 1) := by decide +kernel
theorem d_X2_findMoves_15 : decode (zmc m_X2_findMoves) 15 = .ok (.if_icmp .gt 68, 3) := by decide +kernel
theorem d_X2_findMoves_18 : decode (zmc m_X2_findMoves) 18 = .ok (.bipush (-7), 2) := by decide +kernel
theorem d_X2_findMoves_20 : decode (zmc m_X2_findMoves) 20 = .ok (.istore_n 2, 1) := by decide +kernel
theorem d_X2_findMoves_21 : decode (zmc m_X2_findMoves) 21 = .ok (.iload_n 2, 1) := by decide +kernel
theorem d_X2_findMoves_22 : decode (zmc m_X2_findMoves) 22 = .ok (.bipush 7, 2) := by decide +kernel
theorem d_X2_findMoves_24 : decode (zmc m_X2_findMoves) 24 = .ok (.if_icmp .gt 53, 3) := by decide +kernel
theorem d_X2_findMoves_27 : decode (zmc m_X2_findMoves) 27 = .ok (.aload_n 0, 1) := by decide +kernel
theorem d_X2_findMoves_28 : decode (zmc m_X2_findMoves) 28 = .ok (.iload_n 2, 1) := by decide +kernel
theorem d_X2_findMoves_29 : decode (zmc m_X2_findMoves) 29 = .ok (.iload_n 1, 1) := by decide +kernel
theorem d_X2_findMoves_30 : decode (zmc m_X2_findMoves) 30 = .ok (.invokevirtual 44, 3) := by decide +kernel
theorem d_X2_findMoves_33 : decode (zmc m_X2_findMoves) 33 = .ok (.ifCond .ne 6, 3) := by decide +kernel
theorem d_X2_findMoves_36 : decode (zmc m_X2_findMoves) 36 = .ok (.goto 35, 3) := by decide +kernel
theorem d_X2_findMoves_39 : decode (zmc m_X2_findMoves) 39 = .ok (.aload_n 0, 1) := by decide +kernel
theorem d_X2_findMoves_40 : decode (zmc m_X2_findMoves) 40 = .ok (.getfield 38, 3) := by decide +kernel
theorem d_X2_findMoves_43 : decode (zmc m_X2_findMoves) 43 = .ok (.ifCond .ne 18, 3) := by decide +kernel
theorem d_X2_findMoves_46 : decode (zmc m_X2_findMoves) 46 = .ok (.aload_n 0, 1) := by decide +kernel
theorem d_X2_findMoves_47 : decode (zmc m_X2_findMoves) 47 = .ok (.bipush 15, 2) := by decide +kernel
theorem d_X2_findMoves_49 : decode (zmc m_X2_findMoves) 49 = .ok (.iload_n 1, 1) := by decide +kernel
theorem d_X2_findMoves_50 : decode (zmc m_X2_findMoves) 50 = .ok (.iconst 5, 1) := by decide +kernel
theorem d_X2_findMoves_51 : decode (zmc m_X2_findMoves) 51 = .ok (.iadd, 1) := by decide +kernel
theorem d_X2_findMoves_52 : decode (zmc m_X2_findMoves) 52 = .ok (.imul, 1) := by decide +kernel
theorem d_X2_findMoves_53 : decode (zmc m_X2_findMoves) 53 = .ok (.iload_n 2, 1) := by decide +kernel
theorem d_X2_findMoves_54 : decode (zmc m_X2_findMoves) 54 = .ok (.iadd, 1) := by decide +kernel
theorem d_X2_findMoves_55 : decode (zmc m_X2_findMoves) 55 = .ok (.bipush 7, 2) := by decide +kernel
theorem d_X2_findMoves_57 : decode (zmc m_X2_findMoves) 57 = .ok (.iadd, 1) := by decide +kernel
theorem d_X2_findMoves_58 : decode (zmc m_X2_findMoves) 58 = .ok (.putfield 41, 3) := by decide +kernel
theorem d_X2_findMoves_61 : decode (zmc m_X2_findMoves) 61 = .ok (.aload_n 0, 1) := by decide +kernel
theorem d_X2_findMoves_62 : decode (zmc m_X2_findMoves) 62 = .ok (.dup, 1) := by decide +kernel
theorem d_X2_findMoves_63 : decode (zmc m_X2_findMoves) 63 = .ok (.getfield 38, 3) := by decide +kernel
theorem d_X2_findMoves_66 : decode (zmc m_X2_findMoves) 66 = .ok (.iconst 1, 1) := by decide +kernel
theorem d_X2_findMoves_67 : decode (zmc m_X2_findMoves) 67 = .ok (.iadd, 1) := by decide +kernel
theorem d_X2_findMoves_68 : decode (zmc m_X2_findMoves) 68 = .ok (.putfield 38, 3) := by decide +kernel
theorem d_X2_findMoves_71 : decode (zmc m_X2_findMoves) 71 = .ok (.iinc 2 1, 3) := by decide +kernel
theorem d_X2_findMoves_74 : decode (zmc m_X2_findMoves) 74 = .ok (.goto (-53), 3) := by decide +kernel
theorem d_X2_findMoves_77 : decode (zmc m_X2_findMoves) 77 = .ok (.iinc 1 1, 3) := by decide +kernel
theorem d_X2_findMoves_80 : decode (zmc m_X2_findMoves) 80 = .ok (.goto (-67), 3) := by decide +kernel
theorem d_X2_findMoves_83 : decode (zmc m_X2_findMoves) 83 = .ok (.return_, 1) := by decide +kernel
theorem d_X2_fits_0 : decode (zmc m_X2_fits) 0 = .ok (.iconst 0, 1) := by decide +kernel
theorem d_X2_fits_1 : decode (zmc m_X2_fits) 1 = .ok (.istore_n 3, 1) := by decide +kernel
theorem d_X2_fits_2 : decode (zmc m_X2_fits) 2 = .ok (.iload_n 3, 1) := by decide +kernel
theorem d_X2_fits_3 : decode (zmc m_X2_fits) 3 = .ok (.aload_n 0, 1) := by decide +kernel
theorem d_X2_fits_4 : decode (zmc m_X2_fits) 4 = .ok (.getfield 22, 3) := by decide +kernel
theorem d_X2_fits_7 : decode (zmc m_X2_fits) 7 = .ok (.if_icmp .ge 77, 3) := by decide +kernel
theorem d_X2_fits_10 : decode (zmc m_X2_fits) 10 = .ok (.aload_n 0, 1) := by decide +kernel
theorem d_X2_fits_11 : decode (zmc m_X2_fits) 11 = .ok (.getfield 11, 3) := by decide +kernel
theorem d_X2_fits_14 : decode (zmc m_X2_fits) 14 = .ok (.iload_n 3, 1) := by decide +kernel
theorem d_X2_fits_15 : decode (zmc m_X2_fits) 15 = .ok (.iaload, 1) := by decide +kernel
theorem d_X2_fits_16 : decode (zmc m_X2_fits) 16 = .ok (.iload_n 1, 1) := by decide +kernel
theorem d_X2_fits_17 : decode (zmc m_X2_fits) 17 = .ok (.iadd, 1) := by decide +kernel
theorem d_X2_fits_18 : decode (zmc m_X2_fits) 18 = .ok (.istore 4, 2) := by decide +kernel
theorem d_X2_fits_20 : decode (zmc m_X2_fits) 20 = .ok (.aload_n 0, 1) := by decide +kernel
theorem d_X2_fits_21 : decode (zmc m_X2_fits) 21 = .ok (.getfield 15, 3) := by decide +kernel
theorem d_X2_fits_24 : decode (zmc m_X2_fits) 24 = .ok (.iload_n 3, 1) := by decide +kernel
theorem d_X2_fits_25 : decode (zmc m_X2_fits) 25 = .ok (.iaload, 1) := by decide +kernel
theorem d_X2_fits_26 : decode (zmc m_X2_fits) 26 = .ok (.iload_n 2, 1) := by decide +kernel
theorem d_X2_fits_27 : decode (zmc m_X2_fits) 27 = .ok (.iadd, 1) := by decide +kernel
theorem d_X2_fits_28 : decode (zmc m_X2_fits) 28 = .ok (.istore 5, 2) := by decide +kernel
theorem d_X2_fits_30 : decode (zmc m_X2_fits) 30 = .ok (.iload 4, 2) := by decide +kernel
theorem d_X2_fits_32 : decode (zmc m_X2_fits) 32 = .ok (.ifCond .lt 22, 3) := by decide +kernel
theorem d_X2_fits_35 : decode (zmc m_X2_fits) 35 = .ok (.iload 4, 2) := by decide +kernel
theorem d_X2_fits_37 : decode (zmc m_X2_fits) 37 = .ok (.bipush 8, 2) := by decide +kernel
theorem d_X2_fits_39 : decode (zmc m_X2_fits) 39 = .ok (.if_icmp .ge 15, 3) := by decide +kernel
theorem d_X2_fits_42 : decode (zmc m_X2_fits) 42 = .ok (.iload 5, 2) := by decide +kernel
theorem d_X2_fits_44 : decode (zmc m_X2_fits) 44 = .ok (.ifCond .lt 10, 3) := by decide +kernel
theorem d_X2_fits_47 : decode (zmc m_X2_fits) 47 = .ok (.iload 5, 2) := by decide +kernel
theorem d_X2_fits_49 : decode (zmc m_X2_fits) 49 = .ok (.bipush 6, 2) := by decide +kernel
theorem d_X2_fits_51 : decode (zmc m_X2_fits) 51 = .ok (.if_icmp .lt 5, 3) := by decide +kernel
theorem d_X2_fits_54 : decode (zmc m_X2_fits) 54 = .ok (.iconst 0, 1) := by decide +kernel
theorem d_X2_fits_55 : decode (zmc m_X2_fits) 55 = .ok (.ireturn, 1) := by decide +kernel
theorem d_X2_fits_56 : decode (zmc m_X2_fits) 56 = .ok (.aload_n 0, 1) := by decide +kernel
theorem d_X2_fits_57 : decode (zmc m_X2_fits) 57 = .ok (.getfield 18, 3) := by decide +kernel
theorem d_X2_fits_60 : decode (zmc m_X2_fits) 60 = .ok (.bipush 8, 2) := by decide +kernel
theorem d_X2_fits_62 : decode (zmc m_X2_fits) 62 = .ok (.iload 5, 2) := by decide +kernel
theorem d_X2_fits_64 : decode (zmc m_X2_fits) 64 = .ok (.imul, 1) := by decide +kernel
theorem d_X2_fits_65 : decode (zmc m_X2_fits) 65 = .ok (.iload 4, 2) := by decide +kernel
theorem d_X2_fits_67 : decode (zmc m_X2_fits) 67 = .ok (.iadd, 1) := by decide +kernel
theorem d_X2_fits_68 : decode (zmc m_X2_fits) 68 = .ok (.invokevirtual 47, 3) := by decide +kernel
theorem d_X2_fits_71 : decode (zmc m_X2_fits) 71 = .ok (.bipush (-2), 2) := by decide +kernel
theorem d_X2_fits_73 : decode (zmc m_X2_fits) 73 = .ok (.if_icmp .ne 5, 3) := by decide +kernel
theorem d_X2_fits_76 : decode (zmc m_X2_fits) 76 = .ok (.iconst 0, 1) := by decide +kernel
theorem d_X2_fits_77 : decode (zmc m_X2_fits) 77 = .ok (.ireturn, 1) := by decide +kernel
theorem d_X2_fits_78 : decode (zmc m_X2_fits) 78 = .ok (.iinc 3 1, 3) := by decide +kernel
theorem d_X2_fits_81 : decode (zmc m_X2_fits) 81 = .ok (.goto (-79), 3) := by decide +kernel
theorem d_X2_fits_84 : decode (zmc m_X2_fits) 84 = .ok (.iconst 1, 1) := by decide +kernel
theorem d_X2_fits_85 : decode (zmc m_X2_fits) 85 = .ok (.ireturn, 1) := by decide +kernel
theorem d_X2_read_0 : decode (zmc m_X2_read) 0 = .ok (.aload_n 0, 1) := by decide +kernel
theorem d_X2_read_1 : decode (zmc m_X2_read) 1 = .ok (.iconst 0, 1) := by decide +kernel
theorem d_X2_read_2 : decode (zmc m_X2_read) 2 = .ok (.putfield 22, 3) := by decide +kernel
theorem d_X2_read_5 : decode (zmc m_X2_read) 5 = .ok (.iconst 0, 1) := by decide +kernel
theorem d_X2_read_6 : decode (zmc m_X2_read) 6 = .ok (.istore_n 3, 1) := by decide +kernel
theorem d_X2_read_7 : decode (zmc m_X2_read) 7 = .ok (.iload_n 3, 1) := by decide +kernel
theorem d_X2_read_8 : decode (zmc m_X2_read) 8 = .ok (.bipush 8, 2) := by decide +kernel
theorem d_X2_read_10 : decode (zmc m_X2_read) 10 = .ok (.if_icmp .ge 75, 3) := by decide +kernel
theorem d_X2_read_13 : decode (zmc m_X2_read) 13 = .ok (.aload_n 1, 1) := by decide +kernel
theorem d_X2_read_14 : decode (zmc m_X2_read) 14 = .ok (.iload_n 3, 1) := by decide +kernel
theorem d_X2_read_15 : decode (zmc m_X2_read) 15 = .ok (.invokevirtual 26, 3) := by decide +kernel
theorem d_X2_read_18 : decode (zmc m_X2_read) 18 = .ok (.istore 4, 2) := by decide +kernel
theorem d_X2_read_20 : decode (zmc m_X2_read) 20 = .ok (.aload_n 0, 1) := by decide +kernel
theorem d_X2_read_21 : decode (zmc m_X2_read) 21 = .ok (.getfield 18, 3) := by decide +kernel
theorem d_X2_read_24 : decode (zmc m_X2_read) 24 = .ok (.iconst 0, 1) := by decide +kernel
theorem d_X2_read_25 : decode (zmc m_X2_read) 25 = .ok (.iload 4, 2) := by decide +kernel
theorem d_X2_read_27 : decode (zmc m_X2_read) 27 = .ok (.invokevirtual 34, 3) := by decide +kernel
theorem d_X2_read_30 : decode (zmc m_X2_read) 30 = .ok (.ifCond .ne 4, 3) := by decide +kernel
theorem d_X2_read_33 : decode (zmc m_X2_read) 33 = .ok (.return_, 1) := by decide +kernel
theorem d_X2_read_34 : decode (zmc m_X2_read) 34 = .ok (.iload 4, 2) := by decide +kernel
theorem d_X2_read_36 : decode (zmc m_X2_read) 36 = .ok (.bipush 8, 2) := by decide +kernel
theorem d_X2_read_38 : decode (zmc m_X2_read) 38 = .ok (.irem, 1) := by decide +kernel
theorem d_X2_read_39 : decode (zmc m_X2_read) 39 = .ok (.istore 5, 2) := by decide +kernel
theorem d_X2_read_41 : decode (zmc m_X2_read) 41 = .ok (.aload_n 0, 1) := by decide +kernel
theorem d_X2_read_42 : decode (zmc m_X2_read) 42 = .ok (.getfield 11, 3) := by decide +kernel
theorem d_X2_read_45 : decode (zmc m_X2_read) 45 = .ok (.iload_n 3, 1) := by decide +kernel
theorem d_X2_read_46 : decode (zmc m_X2_read) 46 = .ok (.iload_n 2, 1) := by decide +kernel
theorem d_X2_read_47 : decode (zmc m_X2_read) 47 = .ok (.ifCond .eq 11, 3) := by decide +kernel
theorem d_X2_read_50 : decode (zmc m_X2_read) 50 = .ok (.bipush 7, 2) := by decide +kernel
theorem d_X2_read_52 : decode (zmc m_X2_read) 52 = .ok (.iload 5, 2) := by decide +kernel
theorem d_X2_read_54 : decode (zmc m_X2_read) 54 = .ok (.isub, 1) := by decide +kernel
theorem d_X2_read_55 : decode (zmc m_X2_read) 55 = .ok (.goto 5, 3) := by decide +kernel
theorem d_X2_read_58 : decode (zmc m_X2_read) 58 = .ok (.iload 5, 2) := by decide +kernel
theorem d_X2_read_60 : decode (zmc m_X2_read) 60 = .ok (.iastore, 1) := by decide +kernel
theorem d_X2_read_61 : decode (zmc m_X2_read) 61 = .ok (.aload_n 0, 1) := by decide +kernel
theorem d_X2_read_62 : decode (zmc m_X2_read) 62 = .ok (.getfield 15, 3) := by decide +kernel
theorem d_X2_read_65 : decode (zmc m_X2_read) 65 = .ok (.iload_n 3, 1) := by decide +kernel
theorem d_X2_read_66 : decode (zmc m_X2_read) 66 = .ok (.iload 4, 2) := by decide +kernel
theorem d_X2_read_68 : decode (zmc m_X2_read) 68 = .ok (.bipush 8, 2) := by decide +kernel
theorem d_X2_read_70 : decode (zmc m_X2_read) 70 = .ok (.idiv, 1) := by decide +kernel
theorem d_X2_read_71 : decode (zmc m_X2_read) 71 = .ok (.iastore, 1) := by decide +kernel
theorem d_X2_read_72 : decode (zmc m_X2_read) 72 = .ok (.aload_n 0, 1) := by decide +kernel
theorem d_X2_read_73 : decode (zmc m_X2_read) 73 = .ok (.iload_n 3, 1) := by decide +kernel
theorem d_X2_read_74 : decode (zmc m_X2_read) 74 = .ok (.iconst 1, 1) := by decide +kernel
theorem d_X2_read_75 : decode (zmc m_X2_read) 75 = .ok (.iadd, 1) := by decide +kernel
theorem d_X2_read_76 : decode (zmc m_X2_read) 76 = .ok (.putfield 22, 3) := by decide +kernel
theorem d_X2_read_79 : decode (zmc m_X2_read) 79 = .ok (.iinc 3 1, 3) := by decide +kernel
theorem d_X2_read_82 : decode (zmc m_X2_read) 82 = .ok (.goto (-75), 3) := by decide +kernel
theorem d_X2_read_85 : decode (zmc m_X2_read) 85 = .ok (.return_, 1) := by decide +kernel
/-! THE CHART -/
/-- the least k below n, from k on, at which p fails; n -/
def zrl (p : Nat → Bool) : Nat → Nat → Nat
  | 0, k => k
  | m + 1, k => if p k = true then zrl p m (k + 1) else k
def zrun (p : Nat → Bool) (n k : Nat) : Nat := zrl p (n - k) k
theorem zrun_end {p : Nat → Bool} {n k : Nat} (h : n ≤ k) : zrun p n k = k := by
  unfold zrun; rw [Nat.sub_eq_zero_of_le h]; rfl
theorem zrun_t {p : Nat → Bool} {n k : Nat} (h : k < n) (e : p k = true) : zrun p n k = zrun p n (k + 1) := by
  unfold zrun; rw [show n - k = (n - (k + 1)) + 1 by omega]; exact if_pos e
theorem zrun_f {p : Nat → Bool} {n k : Nat} (e : ¬ p k = true) : zrun p n k = k := by
  unfold zrun
  cases h : n - k with
  | zero => rfl
  | succ m => exact if_neg e
theorem zrun_spec (p : Nat → Bool) (n : Nat) : ∀ k, k ≤ n → k ≤ zrun p n k ∧ zrun p n k ≤ n ∧ (∀ j, k ≤ j → j < zrun p n k → p j = true) ∧ (zrun p n k < n → ¬ p (zrun p n k) = true) := by
  refine zloop n (fun k hk ih => ?_)
  rcases Nat.eq_or_lt_of_le hk with e | hlt
  · rw [zrun_end (by omega)]
    exact ⟨Nat.le_refl _, hk, fun j h1 h2 => by omega, fun h => by omega⟩
  · by_cases hp : p k = true
    · rw [zrun_t hlt hp]
      obtain ⟨h1, h2, h3, h4⟩ := ih hlt
      refine ⟨by omega, h2, fun j h5 h6 => ?_, h4⟩
      rcases Nat.eq_or_lt_of_le h5 with rfl | h5
      · exact hp
      · exact h3 j h5 h6
    · rw [zrun_f hp]
      exact ⟨Nat.le_refl _, hk, fun j h1 h2 => by omega, fun _ => hp⟩
theorem zrun_congr {p q : Nat → Bool} {n k : Nat} (hk : k ≤ n) (h : ∀ j, k ≤ j → j < n → p j = q j) : zrun p n k = zrun q n k := by
  revert k
  intro k hk h
  induction e : n - k generalizing k with
  | zero => rw [zrun_end (by omega), zrun_end (by omega)]
  | succ m ih =>
    have hlt : k < n := by omega
    have e1 := h k (Nat.le_refl _) hlt
    by_cases hp : p k = true
    · rw [zrun_t hlt hp, zrun_t hlt (e1 ▸ hp)]
      exact ih (by omega) (fun j h1 h2 => h j (by omega) h2) (by omega)
    · rw [zrun_f hp, zrun_f (e1 ▸ hp)]
/-- a row's cell of the pattern, and how many there are -/
def zCell (I : Nat → Nat → Int32) (L : Nat → Nat → Int64) (h : Nat) (i : Nat) : Bool := decide (zMay 0 (zTold I L h (nI i)))
def zPatN (I : Nat → Nat → Int32) (L : Nat → Nat → Int64) (h : Nat) : Nat := zrun (zCell I L h) 8 0
def zPatX (I : Nat → Nat → Int32) (L : Nat → Nat → Int64) (h : Nat) (mir : Int32) (i : Nat) : Int32 := let c := zTold I L h (nI i); if mir = 0 then c - c / 8 * 8 else 7 - (c - c / 8 * 8)
def zPatY (I : Nat → Nat → Int32) (L : Nat → Nat → Int64) (h : Nat) (i : Nat) : Int32 := zTold I L h (nI i) / 8
def zOn (I : Nat → Nat → Int32) (ns : Nat) (x y : Int32) : Prop := ((0 ≤ x ∧ x < 8) ∧ (0 ≤ y ∧ y < 6)) ∧ ¬ zfind (I 3) (8 * y + x) ns 0 = -2
abbrev zOnB (I : Nat → Nat → Int32) (ns : Nat) (x y : Int32) : Prop := ((0 ≤ x ∧ x < 8) ∧ (0 ≤ y ∧ y < 6)) ∧ ¬ zfind (I 3) (8 * y + x) ns 0 = -2
def zFitN (I : Nat → Nat → Int32) (ns : Nat) (X Y : Nat → Int32) (n : Nat) (bx b_y : Int32) : Prop := zrun (fun i => decide (zOnB I ns (X i + bx) (Y i + b_y))) n 0 = n
abbrev zFit (I : Nat → Nat → Int32) (ns : Nat) (X Y : Nat → Int32) (n : Nat) (bx b_y : Int32) : Prop := zrun (fun i => decide (zOnB I ns (X i + bx) (Y i + b_y))) n 0 = n
def zMvI (fit : Int32 → Int32 → Bool) (y : Int32) (i : Nat) (s : Int32 × Int32) : Int32 × Int32 := if fit (nI i - 7) y = true then (s.1 + 1, if s.1 = 0 then 15 * (y + 5) + (nI i - 7) + 7 else s.2) else s
def zMv (fit : Int32 → Int32 → Bool) (z : Int32) : Int32 × Int32 := zfor (fun j s => zfor (zMvI fit (nI j - 5)) 15 0 s) 11 0 (0, z)
theorem zCastI {g : zG} {l : Launch} {d n0 n1 n pc : Nat} {M : zM} {I J : Nat → Nat → Int32} {L : Nat → Nat → Int64} {R : Nat → Nat → Option Nat} {lv : List (Nat × Value)} {st : List Value} {Q : Option Value → zW → Prop} (e : J = I) (k : zAW g l d n0 n1 M (J, L, R, n) pc lv st Q) : zAW g l d n0 n1 M (I, L, R, n) pc lv st Q := e ▸ k
section S16
variable {g : zG} {l : Launch} {d : Nat} {I : Nat → Nat → Int32} {L : Nat → Nat → Int64} {fs : Nat × Nat × Option Nat} {ns nt nh h : Nat}
theorem sp_X2_read (hd : 3 ≤ d) (hh : zShf h) (hne : 42 ≤ h) {n : Nat} (hn : I h 2 = nI n) (hn2 : n ≤ 60) {mir : Int32} : zSp g l d 100 m_X2_read [.ref 19, .ref h, .int mir] (zU I L fs) (zV (fun w => ∃ X Y, w = zU (zup (zup (zup I 20 X) 21 Y) 19 (zup (I 19) 3 (nI (zPatN I L h)))) L fs ∧ ∀ i, i < zPatN I L h → X i = zPatX I L h mir i ∧ Y i = zPatY I L h i)) := by
  have loop : ∀ k, k ≤ 8 → ∀ X Y, (∀ i, i < k → X i = zPatX I L h mir i ∧ Y i = zPatY I L h i) → zrun (zCell I L h) 8 k = zPatN I L h → zA g l d m_X2_read (zup (zup (zup I 20 X) 21 Y) 19 (zup (I 19) 3 (nI k))) L fs 7 [(3, .int (nI k)), (0, .ref 19), (1, .ref h), (2, .int mir)] (zV (fun w => ∃ X Y, w = zU (zup (zup (zup I 20 X) 21 Y) 19 (zup (I 19) 3 (nI (zPatN I L h)))) L fs ∧ ∀ i, i < zPatN I L h → X i = zPatX I L h mir i ∧ Y i = zPatY I L h i)) := by
    refine zloop 8 (fun k hk ih X Y hXY hx => ?_)
    have eh : (zup (zup (zup I 20 X) 21 Y) 19 (zup (I 19) 3 (nI k))) h = I h := by rw [zup_ne (by omega), zup_ne (by omega), zup_ne (by omega)]
    have et : ∀ i, zTold (zup (zup (zup I 20 X) 21 Y) 19 (zup (I 19) 3 (nI k))) L h i = zTold I L h i := fun i => by unfold zTold; rw [eh]
    refine zIloadN d_X2_read_7 rfl rfl (q := 8) rfl ?_
    refine zBipush d_X2_read_8 (v := 8) bc_8 (q := 10) rfl ?_
    refine zIcmp_ge d_X2_read_10 (tgt := 85) (q := 13) (by decide) rfl (fun h10 => ?_) (fun h10 => ?_)
    · have e := nle (b := 8) h10
      have ek : k = zPatN I L h := by rw [← hx, zrun_end e]
      refine zVret d_X2_read_85 rfl rfl ?_
      exact ⟨rfl, X, Y, by rw [← ek], fun i hi => hXY i (by omega)⟩
    · have hlt := nnle (b := 8) h10
      refine zAloadN d_X2_read_13 rfl rfl (q := 14) rfl ?_
      refine zIloadN d_X2_read_14 rfl rfl (q := 15) rfl ?_
      refine zCallVP d_X2_read_15 ml_X2_26 k_X8_told ki_X8_told ks_X8_told (sp_X8_told (d := d - 1) (by omega) hh (by rw [eh]; exact hn) hn2) rfl rfl hh.1 (by decide) rfl (Nat.lt_of_succ_lt hh.2.2.1) (Nat.le_of_ble_eq_true rfl) (by decide) (by omega) zns100 (q := 18) rfl ?_
      rw [et]
      refine zIstore d_X2_read_18 (by decide) rfl (q := 20) rfl ?_
      refine zAloadN d_X2_read_20 rfl rfl (q := 21) rfl ?_
      refine zGetR d_X2_read_21 ff_X2_18 sh_19 (by decide) r_19_0 (q := 24) rfl ?_
      refine zIconst d_X2_read_24 (v := 0) ic_0 (q := 25) rfl ?_
      refine zIload d_X2_read_25 rfl (q := 27) rfl ?_
      refine zCallVP d_X2_read_27 ml_X2_34 k_X9_mayBe ki_X9_mayBe ks_X9_mayBe (sp_X9_mayBe (d := d - 1) (by omega) ) rfl rfl sh_1 (by decide) rfl (by decide) (Nat.le_of_ble_eq_true rfl) (by decide) (by omega) zns100 (q := 30) rfl ?_
      refine zIf_ne d_X2_read_30 (tgt := 34) (q := 33) (by decide) rfl (fun h30 => ?_) (fun h30 => ?_)
      · have hc : zCell I L h k = true := by unfold zCell; rw [decide_eq_true_eq]; exact bi_n0.mp h30
        rw [zrun_t hlt hc] at hx
        refine zIload d_X2_read_34 rfl (q := 36) rfl ?_
        refine zBipush d_X2_read_36 (v := 8) bc_8 (q := 38) rfl ?_
        refine zIrem d_X2_read_38 (by decide) (q := 39) rfl ?_
        refine zIstore d_X2_read_39 (by decide) rfl (q := 41) rfl ?_
        refine zAloadN d_X2_read_41 rfl rfl (q := 42) rfl ?_
        refine zGetR d_X2_read_42 ff_X2_11 sh_19 (by decide) r_19_1 (q := 45) rfl ?_
        refine zIloadN d_X2_read_45 rfl rfl (q := 46) rfl ?_
        refine zIloadN d_X2_read_46 rfl rfl (q := 47) rfl ?_
        refine zIf_eq d_X2_read_47 (tgt := 58) (q := 50) (by decide) rfl (fun h47 => ?_) (fun h47 => ?_)
        · refine zIload d_X2_read_58 rfl (q := 60) rfl ?_
          refine zIast d_X2_read_60 sh_20 (by decide) rfl (by omega) (q := 61) rfl ?_
          refine zAloadN d_X2_read_61 rfl rfl (q := 62) rfl ?_
          refine zGetR d_X2_read_62 ff_X2_15 sh_19 (by decide) r_19_2 (q := 65) rfl ?_
          refine zIloadN d_X2_read_65 rfl rfl (q := 66) rfl ?_
          refine zIload d_X2_read_66 rfl (q := 68) rfl ?_
          refine zBipush d_X2_read_68 (v := 8) bc_8 (q := 70) rfl ?_
          refine zIdiv d_X2_read_70 (by decide) (q := 71) rfl ?_
          refine zIast d_X2_read_71 sh_21 (by decide) rfl (by omega) (q := 72) rfl ?_
          refine zAloadN d_X2_read_72 rfl rfl (q := 73) rfl ?_
          refine zIloadN d_X2_read_73 rfl rfl (q := 74) rfl ?_
          refine zIconst d_X2_read_74 (v := 1) ic_1 (q := 75) rfl ?_
          refine zIadd d_X2_read_75 (q := 76) rfl ?_
          refine zPutI d_X2_read_76 ff_X2_22 rfl rfl rfl sh_19 (by decide) (q := 79) rfl ?_
          refine zIinc d_X2_read_79 rfl (zinc _) (by decide) rfl (q := 82) rfl ?_
          refine zGoto d_X2_read_82 (q := 7) (by decide) ?_
          refine zSub [0, 3, 4, 5] rfl ?_
          rw [nI_1]
          have key := ih hlt (zup X k (zPatX I L h mir k)) (zup Y k (zPatY I L h k)) (fun i hi => by
            by_cases q : i = k
            · subst q; exact ⟨zup_eq, zup_eq⟩
            · rw [zup_ne q, zup_ne q]; exact hXY i (by omega)) hx
          refine zCastI ?_ key
          funext a
          by_cases a19 : a = 19
          · subst a19
            exact (zup_zup (f := I 19) (k := 3) (x := nI k) (y := nI (k + 1))).symm
          · by_cases a20 : a = 20
            · subst a20
              show zup X k (zPatX I L h mir k) = zup X k _
              congr 1
              unfold zPatX
              first | exact if_pos h47 | exact if_neg h47
            · by_cases a21 : a = 21
              · subst a21
                rfl
              · simp [zup, a19, a20, a21]
        · refine zBipush d_X2_read_50 (v := 7) bc_7 (q := 52) rfl ?_
          refine zIload d_X2_read_52 rfl (q := 54) rfl ?_
          refine zIsub d_X2_read_54 (q := 55) rfl ?_
          refine zGoto d_X2_read_55 (q := 60) (by decide) ?_
          refine zIast d_X2_read_60 sh_20 (by decide) rfl (by omega) (q := 61) rfl ?_
          refine zAloadN d_X2_read_61 rfl rfl (q := 62) rfl ?_
          refine zGetR d_X2_read_62 ff_X2_15 sh_19 (by decide) r_19_2 (q := 65) rfl ?_
          refine zIloadN d_X2_read_65 rfl rfl (q := 66) rfl ?_
          refine zIload d_X2_read_66 rfl (q := 68) rfl ?_
          refine zBipush d_X2_read_68 (v := 8) bc_8 (q := 70) rfl ?_
          refine zIdiv d_X2_read_70 (by decide) (q := 71) rfl ?_
          refine zIast d_X2_read_71 sh_21 (by decide) rfl (by omega) (q := 72) rfl ?_
          refine zAloadN d_X2_read_72 rfl rfl (q := 73) rfl ?_
          refine zIloadN d_X2_read_73 rfl rfl (q := 74) rfl ?_
          refine zIconst d_X2_read_74 (v := 1) ic_1 (q := 75) rfl ?_
          refine zIadd d_X2_read_75 (q := 76) rfl ?_
          refine zPutI d_X2_read_76 ff_X2_22 rfl rfl rfl sh_19 (by decide) (q := 79) rfl ?_
          refine zIinc d_X2_read_79 rfl (zinc _) (by decide) rfl (q := 82) rfl ?_
          refine zGoto d_X2_read_82 (q := 7) (by decide) ?_
          refine zSub [0, 3, 4, 5] rfl ?_
          rw [nI_1]
          have key := ih hlt (zup X k (zPatX I L h mir k)) (zup Y k (zPatY I L h k)) (fun i hi => by
            by_cases q : i = k
            · subst q; exact ⟨zup_eq, zup_eq⟩
            · rw [zup_ne q, zup_ne q]; exact hXY i (by omega)) hx
          refine zCastI ?_ key
          funext a
          by_cases a19 : a = 19
          · subst a19
            exact (zup_zup (f := I 19) (k := 3) (x := nI k) (y := nI (k + 1))).symm
          · by_cases a20 : a = 20
            · subst a20
              show zup X k (zPatX I L h mir k) = zup X k _
              congr 1
              unfold zPatX
              first | exact if_pos h47 | exact if_neg h47
            · by_cases a21 : a = 21
              · subst a21
                rfl
              · simp [zup, a19, a20, a21]
      · have hc : ¬ zCell I L h k = true := by unfold zCell; rw [decide_eq_true_eq]; exact bi_0.mp h30
        have ek : k = zPatN I L h := by rw [← hx, zrun_f hc]
        refine zVret d_X2_read_33 rfl rfl ?_
        exact ⟨rfl, X, Y, by rw [← ek], fun i hi => hXY i (by omega)⟩
  have e0 : zup (zup (zup I 20 (I 20)) 21 (I 21)) 19 (zup (I 19) 3 (nI 0)) = zup I 19 (zup (I 19) 3 0) := by rw [zup_self, zup_self]; rfl
  have h0 := loop 0 (Nat.zero_le _) (I 20) (I 21) (fun i hi => by omega) rfl
  rw [e0] at h0
  refine zSp_of (lv := [(0, .ref 19), (1, .ref h), (2, .int mir)]) k_X2_read rfl (Nat.le_of_ble_eq_true rfl) ?_
  refine zAloadN d_X2_read_0 rfl rfl (q := 1) rfl ?_
  refine zIconst d_X2_read_1 (v := 0) ic_0 (q := 2) rfl ?_
  refine zPutI d_X2_read_2 ff_X2_22 rfl rfl rfl sh_19 (by decide) (q := 5) rfl ?_
  refine zIconst d_X2_read_5 (v := 0) ic_0 (q := 6) rfl ?_
  refine zIstoreN d_X2_read_6 rfl (by decide) rfl (q := 7) rfl ?_
  refine zSub [0, 1, 2, 3] rfl ?_
  exact h0
theorem sp_X2_fits (hd : 2 ≤ d) (hK : zSky I ns nt nh) {n : Nat} (hn : I 19 3 = nI n) (h8 : n ≤ 8) {bx b_y : Int32} : zPure g l d m_X2_fits [.ref 19, .int bx, .int b_y] I L fs (.int (bi (zFit I ns (I 20) (I 21) n bx b_y))) := by
  have loop : ∀ k, k ≤ n → zrun (fun i => decide (zOnB I ns (I 20 i + bx) (I 21 i + b_y))) n k = zrun (fun i => decide (zOnB I ns (I 20 i + bx) (I 21 i + b_y))) n 0 → zA g l d m_X2_fits I L fs 2 [(3, .int (nI k)), (0, .ref 19), (1, .int bx), (2, .int b_y)] (zP (.int (bi (zFit I ns (I 20) (I 21) n bx b_y))) (zU I L fs)) := by
    refine zloop n (fun k hk ih hx => ?_)
    refine zIloadN d_X2_fits_2 rfl rfl (q := 3) rfl ?_
    refine zAloadN d_X2_fits_3 rfl rfl (q := 4) rfl ?_
    refine zGetI d_X2_fits_4 ff_X2_22 sh_19 (by decide) (q := 7) rfl ?_
    refine zIcmp_ge d_X2_fits_7 (tgt := 84) (q := 10) (by decide) rfl (fun h7 => ?_) (fun h7 => ?_)
    · have e := nle (hn ▸ h7)
      have ek : k = n := by omega
      refine zIconst d_X2_fits_84 (v := 1) ic_1 (q := 85) rfl ?_
      refine zIret d_X2_fits_85 rfl rfl rfl ?_
      exact zPi (bi_t (by unfold zFit; rw [← hx, zrun_end e, ek])).symm
    · have hlt := nnle (hn ▸ h7)
      refine zAloadN d_X2_fits_10 rfl rfl (q := 11) rfl ?_
      refine zGetR d_X2_fits_11 ff_X2_11 sh_19 (by decide) r_19_1 (q := 14) rfl ?_
      refine zIloadN d_X2_fits_14 rfl rfl (q := 15) rfl ?_
      refine zIald d_X2_fits_15 sh_20 (by decide) rfl (by omega) (q := 16) rfl ?_
      refine zIloadN d_X2_fits_16 rfl rfl (q := 17) rfl ?_
      refine zIadd d_X2_fits_17 (q := 18) rfl ?_
      refine zIstore d_X2_fits_18 (by decide) rfl (q := 20) rfl ?_
      refine zAloadN d_X2_fits_20 rfl rfl (q := 21) rfl ?_
      refine zGetR d_X2_fits_21 ff_X2_15 sh_19 (by decide) r_19_2 (q := 24) rfl ?_
      refine zIloadN d_X2_fits_24 rfl rfl (q := 25) rfl ?_
      refine zIald d_X2_fits_25 sh_21 (by decide) rfl (by omega) (q := 26) rfl ?_
      refine zIloadN d_X2_fits_26 rfl rfl (q := 27) rfl ?_
      refine zIadd d_X2_fits_27 (q := 28) rfl ?_
      refine zIstore d_X2_fits_28 (by decide) rfl (q := 30) rfl ?_
      refine zIload d_X2_fits_30 rfl (q := 32) rfl ?_
      refine zIf_lt d_X2_fits_32 (tgt := 54) (q := 35) (by decide) rfl (fun h32 => ?_) (fun h32 => ?_)
      · refine zIconst d_X2_fits_54 (v := 0) ic_0 (q := 55) rfl ?_
        refine zIret d_X2_fits_55 rfl rfl rfl ?_
        have hc : ¬ zOnB I ns (I 20 k + bx) (I 21 k + b_y) := by rintro ⟨⟨⟨q1, q2⟩, q3, q4⟩, -⟩; grind
        have hr := zrun_f (p := fun i => decide (zOnB I ns (I 20 i + bx) (I 21 i + b_y))) (n := n) (k := k) (by rw [decide_eq_true_eq]; exact hc)
        exact zPi (bi_f (fun q => by unfold zFit at q; rw [← hx, hr] at q; omega)).symm
      · refine zIload d_X2_fits_35 rfl (q := 37) rfl ?_
        refine zBipush d_X2_fits_37 (v := 8) bc_8 (q := 39) rfl ?_
        refine zIcmp_ge d_X2_fits_39 (tgt := 54) (q := 42) (by decide) rfl (fun h39 => ?_) (fun h39 => ?_)
        · refine zIconst d_X2_fits_54 (v := 0) ic_0 (q := 55) rfl ?_
          refine zIret d_X2_fits_55 rfl rfl rfl ?_
          have hc : ¬ zOnB I ns (I 20 k + bx) (I 21 k + b_y) := by rintro ⟨⟨⟨q1, q2⟩, q3, q4⟩, -⟩; grind
          have hr := zrun_f (p := fun i => decide (zOnB I ns (I 20 i + bx) (I 21 i + b_y))) (n := n) (k := k) (by rw [decide_eq_true_eq]; exact hc)
          exact zPi (bi_f (fun q => by unfold zFit at q; rw [← hx, hr] at q; omega)).symm
        · refine zIload d_X2_fits_42 rfl (q := 44) rfl ?_
          refine zIf_lt d_X2_fits_44 (tgt := 54) (q := 47) (by decide) rfl (fun h44 => ?_) (fun h44 => ?_)
          · refine zIconst d_X2_fits_54 (v := 0) ic_0 (q := 55) rfl ?_
            refine zIret d_X2_fits_55 rfl rfl rfl ?_
            have hc : ¬ zOnB I ns (I 20 k + bx) (I 21 k + b_y) := by rintro ⟨⟨⟨q1, q2⟩, q3, q4⟩, -⟩; grind
            have hr := zrun_f (p := fun i => decide (zOnB I ns (I 20 i + bx) (I 21 i + b_y))) (n := n) (k := k) (by rw [decide_eq_true_eq]; exact hc)
            exact zPi (bi_f (fun q => by unfold zFit at q; rw [← hx, hr] at q; omega)).symm
          · refine zIload d_X2_fits_47 rfl (q := 49) rfl ?_
            refine zBipush d_X2_fits_49 (v := 6) bc_6 (q := 51) rfl ?_
            refine zIcmp_lt d_X2_fits_51 (tgt := 56) (q := 54) (by decide) rfl (fun h51 => ?_) (fun h51 => ?_)
            · refine zAloadN d_X2_fits_56 rfl rfl (q := 57) rfl ?_
              refine zGetR d_X2_fits_57 ff_X2_18 sh_19 (by decide) r_19_0 (q := 60) rfl ?_
              refine zBipush d_X2_fits_60 (v := 8) bc_8 (q := 62) rfl ?_
              refine zIload d_X2_fits_62 rfl (q := 64) rfl ?_
              refine zImul d_X2_fits_64 (q := 65) rfl ?_
              refine zIload d_X2_fits_65 rfl (q := 67) rfl ?_
              refine zIadd d_X2_fits_67 (q := 68) rfl ?_
              refine zCallVP d_X2_fits_68 ml_X2_47 k_X9_starIn ki_X9_starIn ks_X9_starIn (sp_X9_starIn (d := d - 1) (by omega) hK) rfl rfl sh_1 (by decide) rfl (by decide) (Nat.le_of_ble_eq_true rfl) (by decide) (by omega) zns100 (q := 71) rfl ?_
              refine zBipush d_X2_fits_71 (v := -2) bc_m2 (q := 73) rfl ?_
              refine zIcmp_ne d_X2_fits_73 (tgt := 78) (q := 76) (by decide) rfl (fun h73 => ?_) (fun h73 => ?_)
              · refine zIinc d_X2_fits_78 rfl (zinc _) (by decide) rfl (q := 81) rfl ?_
                refine zGoto d_X2_fits_81 (q := 2) (by decide) ?_
                refine zSub [0, 3, 4, 5] rfl ?_
                exact ih hlt (by rw [← hx, zrun_t hlt (by rw [decide_eq_true_eq]; exact ⟨⟨⟨by grind, by grind⟩, by grind, by grind⟩, h73⟩)])
              · refine zIconst d_X2_fits_76 (v := 0) ic_0 (q := 77) rfl ?_
                refine zIret d_X2_fits_77 rfl rfl rfl ?_
                have hc : ¬ zOnB I ns (I 20 k + bx) (I 21 k + b_y) := by rintro ⟨-, q⟩; exact q (by simpa using h73)
                have hr := zrun_f (p := fun i => decide (zOnB I ns (I 20 i + bx) (I 21 i + b_y))) (n := n) (k := k) (by rw [decide_eq_true_eq]; exact hc)
                exact zPi (bi_f (fun q => by unfold zFit at q; rw [← hx, hr] at q; omega)).symm
            · refine zIconst d_X2_fits_54 (v := 0) ic_0 (q := 55) rfl ?_
              refine zIret d_X2_fits_55 rfl rfl rfl ?_
              have hc : ¬ zOnB I ns (I 20 k + bx) (I 21 k + b_y) := by rintro ⟨⟨⟨q1, q2⟩, q3, q4⟩, -⟩; grind
              have hr := zrun_f (p := fun i => decide (zOnB I ns (I 20 i + bx) (I 21 i + b_y))) (n := n) (k := k) (by rw [decide_eq_true_eq]; exact hc)
              exact zPi (bi_f (fun q => by unfold zFit at q; rw [← hx, hr] at q; omega)).symm
  refine zSp_of (lv := [(0, .ref 19), (1, .int bx), (2, .int b_y)]) k_X2_fits rfl (Nat.le_of_ble_eq_true rfl) ?_
  refine zIconst d_X2_fits_0 (v := 0) ic_0 (q := 1) rfl ?_
  refine zIstoreN d_X2_fits_1 rfl (by decide) rfl (q := 2) rfl ?_
  refine zSub [0, 1, 2, 3] rfl ?_
  exact loop 0 (Nat.zero_le _) rfl
def zMvU (I : Nat → Nat → Int32) (s : Int32 × Int32) : Nat → Nat → Int32 := zup I 19 (zup (zup (I 19) 4 s.1) 5 s.2)
theorem sp_X2_findMoves (hd : 3 ≤ d) (hK : zSky I ns nt nh) {n : Nat} (hn : I 19 3 = nI n) (h8 : n ≤ 8) : zSp g l d 100 m_X2_findMoves [.ref 19] (zU I L fs) (zV (fun w => w = zU (zMvU I (zMv (fun x y => decide (zFit I ns (I 20) (I 21) n x y)) 0)) L fs)) := by
  obtain ⟨F, hF⟩ : ∃ F : Int32 → Int32 → Bool, F = fun x y => decide (zFit I ns (I 20) (I 21) n x y) := ⟨_, rfl⟩
  have hFit : ∀ (s : Int32 × Int32) (x y : Int32), zPure g l (d - 1) m_X2_fits [.ref 19, .int x, .int y] (zMvU I s) L fs (.int (bi (F x y = true))) := by
    intro s x y
    have h := sp_X2_fits (g := g) (l := l) (L := L) (fs := fs) (d := d - 1) (by omega) (zSky_up (a := 19) (f := zup (zup (I 19) 4 s.1) 5 s.2) hK (by decide)) (n := n) hn h8 (bx := x) (b_y := y)
    have e : bi (F x y = true) = bi (zFit I ns (I 20) (I 21) n x y) := bi_iff (by rw [hF, decide_eq_true_eq])
    rw [e]
    exact h
  rw [← hF]
  have inner : ∀ (y : Int32) (x0 : Int32 × Int32), (∀ (v : List (Nat × Value)) , zA g l d m_X2_findMoves (zMvU I x0) L fs 77 [(0, .ref 19), (1, .int y)] (zV (fun w => w = zU (zMvU I (zMv F 0)) L fs))) → ∀ i, i ≤ 15 → ∀ s, zfor (zMvI F y) 15 i s = x0 → zA g l d m_X2_findMoves (zMvU I s) L fs 21 [(2, .int (nI i - 7)), (0, .ref 19), (1, .int y)] (zV (fun w => w = zU (zMvU I (zMv F 0)) L fs)) := by
    intro y x0 K
    refine zloop 15 (fun i hi ih s hx => ?_)
    have e7 : ∀ i, i ≤ 15 → (nI i - 7).toInt = (i : Int) - 7 := fun i hi => pk_sub_toInt (b := 7) (by omega) (by omega)
    refine zIloadN d_X2_findMoves_21 rfl rfl (q := 22) rfl ?_
    refine zBipush d_X2_findMoves_22 (v := 7) bc_7 (q := 24) rfl ?_
    refine zIcmp_gt d_X2_findMoves_24 (tgt := 77) (q := 27) (by decide) rfl (fun h24 => ?_) (fun h24 => ?_)
    · have e : 15 ≤ i := by have h1 := Int32.lt_iff_toInt_lt.mp h24; rw [e7 i hi] at h1; have : (7 : Int32).toInt = 7 := rfl; omega
      rw [zfor_end e] at hx
      subst hx
      refine zSub [1, 2] rfl ?_
      exact K []
    · have hlt : i < 15 := by have h1 : ¬ (7 : Int32).toInt < (nI i - 7).toInt := fun q => h24 (Int32.lt_iff_toInt_lt.mpr q); rw [e7 i hi] at h1; have : (7 : Int32).toInt = 7 := rfl; omega
      rw [zfor_step hlt] at hx
      refine zAloadN d_X2_findMoves_27 rfl rfl (q := 28) rfl ?_
      refine zIloadN d_X2_findMoves_28 rfl rfl (q := 29) rfl ?_
      refine zIloadN d_X2_findMoves_29 rfl rfl (q := 30) rfl ?_
      refine zCallVP d_X2_findMoves_30 ml_X2_44 k_X2_fits ki_X2_fits ks_X2_fits (hFit _ _ _) rfl rfl sh_19 (by decide) rfl (by decide) (Nat.le_of_ble_eq_true rfl) (by decide) (by omega) zns100 (q := 33) rfl ?_
      refine zIf_ne d_X2_findMoves_33 (tgt := 39) (q := 36) (by decide) rfl (fun h33 => ?_) (fun h33 => ?_)
      · have hp := bi_n0.mp h33
        refine zAloadN d_X2_findMoves_39 rfl rfl (q := 40) rfl ?_
        refine zGetI d_X2_findMoves_40 ff_X2_38 sh_19 (by decide) (q := 43) rfl ?_
        refine zIf_ne d_X2_findMoves_43 (tgt := 61) (q := 46) (by decide) rfl (fun h43 => ?_) (fun h43 => ?_)
        · refine zAloadN d_X2_findMoves_61 rfl rfl (q := 62) rfl ?_
          refine zDup d_X2_findMoves_62 rfl (q := 63) rfl ?_
          refine zGetI d_X2_findMoves_63 ff_X2_38 sh_19 (by decide) (q := 66) rfl ?_
          refine zIconst d_X2_findMoves_66 (v := 1) ic_1 (q := 67) rfl ?_
          refine zIadd d_X2_findMoves_67 (q := 68) rfl ?_
          refine zPutI d_X2_findMoves_68 ff_X2_38 rfl rfl rfl sh_19 (by decide) (q := 71) rfl ?_
          refine zIinc d_X2_findMoves_71 rfl (show nI i - 7 + Int32.ofInt 1 = nI (i + 1) - 7 by rw [show Int32.ofInt 1 = (1 : Int32) from rfl, ← nI_1]; grind) (by decide) rfl (q := 74) rfl ?_
          refine zGoto d_X2_findMoves_74 (q := 21) (by decide) ?_
          refine zSub [0, 1, 2] rfl ?_
          refine (?_ : zA g l d m_X2_findMoves _ L fs 21 _ _)
          first
          | exact ih hlt s (by rw [← hx]; unfold zMvI; rw [if_neg hp])
          | (have key := ih hlt (s.1 + 1, if s.1 = 0 then 15 * (y + 5) + (nI i - 7) + 7 else s.2) (by rw [← hx]; unfold zMvI; rw [if_pos hp])
             have h43' : s.1 = 0 := h43
             rw [if_pos h43'] at key
             have e : zup (zup (zMvU I s) 19 (zup ((zMvU I s) 19) 5 (15 * (y + 5) + (nI i - 7) + 7))) 19 (zup ((zup (zMvU I s) 19 (zup ((zMvU I s) 19) 5 (15 * (y + 5) + (nI i - 7) + 7))) 19) 4 (s.1 + 1)) = zMvU I (s.1 + 1, 15 * (y + 5) + (nI i - 7) + 7) := by
               unfold zMvU
               rw [zup_zup, zup_zup, zup_eq, zup_eq, zup_zup, zup_3 (show (4 : Nat) ≠ 5 by decide)]
             exact e ▸ key)
          | (have key := ih hlt (s.1 + 1, if s.1 = 0 then 15 * (y + 5) + (nI i - 7) + 7 else s.2) (by rw [← hx]; unfold zMvI; rw [if_pos hp])
             have h43' : ¬ s.1 = 0 := h43
             rw [if_neg h43'] at key
             have e : zup (zMvU I s) 19 (zup ((zMvU I s) 19) 4 (s.1 + 1)) = zMvU I (s.1 + 1, s.2) := by
               unfold zMvU
               rw [zup_zup, zup_eq, zup_3 (show (4 : Nat) ≠ 5 by decide)]
             exact e ▸ key)
        · refine zAloadN d_X2_findMoves_46 rfl rfl (q := 47) rfl ?_
          refine zBipush d_X2_findMoves_47 (v := 15) bc_15 (q := 49) rfl ?_
          refine zIloadN d_X2_findMoves_49 rfl rfl (q := 50) rfl ?_
          refine zIconst d_X2_findMoves_50 (v := 5) ic_5 (q := 51) rfl ?_
          refine zIadd d_X2_findMoves_51 (q := 52) rfl ?_
          refine zImul d_X2_findMoves_52 (q := 53) rfl ?_
          refine zIloadN d_X2_findMoves_53 rfl rfl (q := 54) rfl ?_
          refine zIadd d_X2_findMoves_54 (q := 55) rfl ?_
          refine zBipush d_X2_findMoves_55 (v := 7) bc_7 (q := 57) rfl ?_
          refine zIadd d_X2_findMoves_57 (q := 58) rfl ?_
          refine zPutI d_X2_findMoves_58 ff_X2_41 rfl rfl rfl sh_19 (by decide) (q := 61) rfl ?_
          refine zAloadN d_X2_findMoves_61 rfl rfl (q := 62) rfl ?_
          refine zDup d_X2_findMoves_62 rfl (q := 63) rfl ?_
          refine zGetI d_X2_findMoves_63 ff_X2_38 sh_19 (by decide) (q := 66) rfl ?_
          refine zIconst d_X2_findMoves_66 (v := 1) ic_1 (q := 67) rfl ?_
          refine zIadd d_X2_findMoves_67 (q := 68) rfl ?_
          refine zPutI d_X2_findMoves_68 ff_X2_38 rfl rfl rfl sh_19 (by decide) (q := 71) rfl ?_
          refine zIinc d_X2_findMoves_71 rfl (show nI i - 7 + Int32.ofInt 1 = nI (i + 1) - 7 by rw [show Int32.ofInt 1 = (1 : Int32) from rfl, ← nI_1]; grind) (by decide) rfl (q := 74) rfl ?_
          refine zGoto d_X2_findMoves_74 (q := 21) (by decide) ?_
          refine zSub [0, 1, 2] rfl ?_
          refine (?_ : zA g l d m_X2_findMoves _ L fs 21 _ _)
          first
          | exact ih hlt s (by rw [← hx]; unfold zMvI; rw [if_neg hp])
          | (have key := ih hlt (s.1 + 1, if s.1 = 0 then 15 * (y + 5) + (nI i - 7) + 7 else s.2) (by rw [← hx]; unfold zMvI; rw [if_pos hp])
             have h43' : s.1 = 0 := h43
             rw [if_pos h43'] at key
             have e : zup (zup (zMvU I s) 19 (zup ((zMvU I s) 19) 5 (15 * (y + 5) + (nI i - 7) + 7))) 19 (zup ((zup (zMvU I s) 19 (zup ((zMvU I s) 19) 5 (15 * (y + 5) + (nI i - 7) + 7))) 19) 4 (s.1 + 1)) = zMvU I (s.1 + 1, 15 * (y + 5) + (nI i - 7) + 7) := by
               unfold zMvU
               rw [zup_zup, zup_zup, zup_eq, zup_eq, zup_zup, zup_3 (show (4 : Nat) ≠ 5 by decide)]
             exact e ▸ key)
          | (have key := ih hlt (s.1 + 1, if s.1 = 0 then 15 * (y + 5) + (nI i - 7) + 7 else s.2) (by rw [← hx]; unfold zMvI; rw [if_pos hp])
             have h43' : ¬ s.1 = 0 := h43
             rw [if_neg h43'] at key
             have e : zup (zMvU I s) 19 (zup ((zMvU I s) 19) 4 (s.1 + 1)) = zMvU I (s.1 + 1, s.2) := by
               unfold zMvU
               rw [zup_zup, zup_eq, zup_3 (show (4 : Nat) ≠ 5 by decide)]
             exact e ▸ key)
      · have hp : ¬ F (nI i - 7) y = true := bi_0.mp h33
        refine zGoto d_X2_findMoves_36 (q := 71) (by decide) ?_
        refine zIinc d_X2_findMoves_71 rfl (show nI i - 7 + Int32.ofInt 1 = nI (i + 1) - 7 by rw [show Int32.ofInt 1 = (1 : Int32) from rfl, ← nI_1]; grind) (by decide) rfl (q := 74) rfl ?_
        refine zGoto d_X2_findMoves_74 (q := 21) (by decide) ?_
        refine zSub [0, 1, 2] rfl ?_
        refine (?_ : zA g l d m_X2_findMoves _ L fs 21 _ _)
        first
        | exact ih hlt s (by rw [← hx]; unfold zMvI; rw [if_neg hp])
        | (have key := ih hlt (s.1 + 1, if s.1 = 0 then 15 * (y + 5) + (nI i - 7) + 7 else s.2) (by rw [← hx]; unfold zMvI; rw [if_pos hp])
           have h43' : s.1 = 0 := h43
           rw [if_pos h43'] at key
           have e : zup (zup (zMvU I s) 19 (zup ((zMvU I s) 19) 5 (15 * (y + 5) + (nI i - 7) + 7))) 19 (zup ((zup (zMvU I s) 19 (zup ((zMvU I s) 19) 5 (15 * (y + 5) + (nI i - 7) + 7))) 19) 4 (s.1 + 1)) = zMvU I (s.1 + 1, 15 * (y + 5) + (nI i - 7) + 7) := by
             unfold zMvU
             rw [zup_zup, zup_zup, zup_eq, zup_eq, zup_zup, zup_3 (show (4 : Nat) ≠ 5 by decide)]
           exact e ▸ key)
        | (have key := ih hlt (s.1 + 1, if s.1 = 0 then 15 * (y + 5) + (nI i - 7) + 7 else s.2) (by rw [← hx]; unfold zMvI; rw [if_pos hp])
           have h43' : ¬ s.1 = 0 := h43
           rw [if_neg h43'] at key
           have e : zup (zMvU I s) 19 (zup ((zMvU I s) 19) 4 (s.1 + 1)) = zMvU I (s.1 + 1, s.2) := by
             unfold zMvU
             rw [zup_zup, zup_eq, zup_3 (show (4 : Nat) ≠ 5 by decide)]
           exact e ▸ key)
  have outer : ∀ j, j ≤ 11 → ∀ s (v : List (Nat × Value)), zfor (fun j s => zfor (zMvI F (nI j - 5)) 15 0 s) 11 j s = zMv F 0 → zA g l d m_X2_findMoves (zMvU I s) L fs 13 [(1, .int (nI j - 5)), (0, .ref 19)] (zV (fun w => w = zU (zMvU I (zMv F 0)) L fs)) := by
    refine zloop 11 (fun j hj ih s v hx => ?_)
    have e5 : ∀ i, i ≤ 11 → (nI i - 5).toInt = (i : Int) - 5 := fun i hi => pk_sub_toInt (b := 5) (by omega) (by omega)
    refine zIloadN d_X2_findMoves_13 rfl rfl (q := 14) rfl ?_
    refine zIconst d_X2_findMoves_14 (v := 5) ic_5 (q := 15) rfl ?_
    refine zIcmp_gt d_X2_findMoves_15 (tgt := 83) (q := 18) (by decide) rfl (fun h15 => ?_) (fun h15 => ?_)
    · have e : 11 ≤ j := by have h1 := Int32.lt_iff_toInt_lt.mp h15; rw [e5 j hj] at h1; have : (5 : Int32).toInt = 5 := rfl; omega
      rw [zfor_end e] at hx
      subst hx
      refine zVret d_X2_findMoves_83 rfl rfl ?_
      exact ⟨rfl, rfl⟩
    · have hlt : j < 11 := by have h1 : ¬ (5 : Int32).toInt < (nI j - 5).toInt := fun q => h15 (Int32.lt_iff_toInt_lt.mpr q); rw [e5 j hj] at h1; have : (5 : Int32).toInt = 5 := rfl; omega
      rw [zfor_step hlt] at hx
      refine zBipush d_X2_findMoves_18 (v := -7) bc_m7 (q := 20) rfl ?_
      refine zIstoreN d_X2_findMoves_20 rfl (by decide) rfl (q := 21) rfl ?_
      refine zSub [0, 2, 1] rfl ?_
      refine inner (nI j - 5) _ (fun v => ?_) 0 (Nat.zero_le _) s rfl
      refine zIinc d_X2_findMoves_77 rfl (show nI j - 5 + Int32.ofInt 1 = nI (j + 1) - 5 by rw [show Int32.ofInt 1 = (1 : Int32) from rfl, ← nI_1]; grind) (by decide) rfl (q := 80) rfl ?_
      refine zGoto d_X2_findMoves_80 (q := 13) (by decide) ?_
      exact ih hlt _ [] hx
  have h0 := outer 0 (Nat.zero_le _) (0, 0) [] rfl
  have e0 : zMvU I (0, 0) = zup (zup I 19 (zup (I 19) 4 0)) 19 (zup ((zup I 19 (zup (I 19) 4 0)) 19) 5 0) := by unfold zMvU; rw [zup_zup, zup_eq]
  rw [e0] at h0
  refine zSp_of (lv := [(0, .ref 19)]) k_X2_findMoves rfl (Nat.le_of_ble_eq_true rfl) ?_
  refine zAloadN d_X2_findMoves_0 rfl rfl (q := 1) rfl ?_
  refine zIconst d_X2_findMoves_1 (v := 0) ic_0 (q := 2) rfl ?_
  refine zPutI d_X2_findMoves_2 ff_X2_38 rfl rfl rfl sh_19 (by decide) (q := 5) rfl ?_
  refine zAloadN d_X2_findMoves_5 rfl rfl (q := 6) rfl ?_
  refine zIconst d_X2_findMoves_6 (v := 0) ic_0 (q := 7) rfl ?_
  refine zPutI d_X2_findMoves_7 ff_X2_41 rfl rfl rfl sh_19 (by decide) (q := 10) rfl ?_
  refine zBipush d_X2_findMoves_10 (v := -5) bc_m5 (q := 12) rfl ?_
  refine zIstoreN d_X2_findMoves_12 rfl (by decide) rfl (q := 13) rfl ?_
  refine zSub [0, 1] rfl ?_
  exact h0
end S16
end
section
theorem d_X4_allIsSo_0 : decode (zmc m_X4_allIsSo) 0 = .ok (.aload_n 0, 1) := by decide +kernel
theorem d_X4_allIsSo_1 : decode (zmc m_X4_allIsSo) 1 = .ok (.iload_n 1, 1) := by decide +kernel
theorem d_X4_allIsSo_2 : decode (zmc m_X4_allIsSo) 2 = .ok (.invokevirtual 67, 3) := by decide +kernel
theorem d_X4_allIsSo_5 : decode (zmc m_X4_allIsSo) 5 = .ok (.istore_n 2, 1) := by decide +kernel
theorem d_X4_allIsSo_6 : decode (zmc m_X4_allIsSo) 6 = .ok (.iconst 0, 1) := by decide +kernel
theorem d_X4_allIsSo_7 : decode (zmc m_X4_allIsSo) 7 = .ok (.istore_n 3, 1) := by decide +kernel
theorem d_X4_allIsSo_8 : decode (zmc m_X4_allIsSo) 8 = .ok (.iload_n 3, 1) := by decide +kernel
theorem d_X4_allIsSo_9 : decode (zmc m_X4_allIsSo) 9 = .ok (.aload_n 0, 1) := by decide +kernel
theorem d_X4_allIsSo_10 : decode (zmc m_X4_allIsSo) 10 = .ok (.getfield 43, 3) := by decide +kernel
theorem d_X4_allIsSo_13 : decode (zmc m_X4_allIsSo) 13 = .ok (.if_icmp .ge 30, 3) := by decide +kernel
theorem d_X4_allIsSo_16 : decode (zmc m_X4_allIsSo) 16 = .ok (.iload_n 2, 1) := by decide +kernel
theorem d_X4_allIsSo_17 : decode (zmc m_X4_allIsSo) 17 = .ok (.aload_n 0, 1) := by decide +kernel
theorem d_X4_allIsSo_18 : decode (zmc m_X4_allIsSo) 18 = .ok (.getfield 9, 3) := by decide +kernel
theorem d_X4_allIsSo_21 : decode (zmc m_X4_allIsSo) 21 = .ok (.iload_n 3, 1) := by decide +kernel
theorem d_X4_allIsSo_22 : decode (zmc m_X4_allIsSo) 22 = .ok (.iaload, 1) := by decide +kernel
theorem d_X4_allIsSo_23 : decode (zmc m_X4_allIsSo) 23 = .ok (.ishr, 1) := by decide +kernel
theorem d_X4_allIsSo_24 : decode (zmc m_X4_allIsSo) 24 = .ok (.iconst 1, 1) := by decide +kernel
theorem d_X4_allIsSo_25 : decode (zmc m_X4_allIsSo) 25 = .ok (.iand, 1) := by decide +kernel
theorem d_X4_allIsSo_26 : decode (zmc m_X4_allIsSo) 26 = .ok (.aload_n 0, 1) := by decide +kernel
theorem d_X4_allIsSo_27 : decode (zmc m_X4_allIsSo) 27 = .ok (.getfield 13, 3) := by decide +kernel
theorem d_X4_allIsSo_30 : decode (zmc m_X4_allIsSo) 30 = .ok (.iload_n 3, 1) := by decide +kernel
theorem d_X4_allIsSo_31 : decode (zmc m_X4_allIsSo) 31 = .ok (.iaload, 1) := by decide +kernel
theorem d_X4_allIsSo_32 : decode (zmc m_X4_allIsSo) 32 = .ok (.if_icmp .eq 5, 3) := by decide +kernel
theorem d_X4_allIsSo_35 : decode (zmc m_X4_allIsSo) 35 = .ok (.iconst 0, 1) := by decide +kernel
theorem d_X4_allIsSo_36 : decode (zmc m_X4_allIsSo) 36 = .ok (.ireturn, 1) := by decide +kernel
theorem d_X4_allIsSo_37 : decode (zmc m_X4_allIsSo) 37 = .ok (.iinc 3 1, 3) := by decide +kernel
theorem d_X4_allIsSo_40 : decode (zmc m_X4_allIsSo) 40 = .ok (.goto (-32), 3) := by decide +kernel
theorem d_X4_allIsSo_43 : decode (zmc m_X4_allIsSo) 43 = .ok (.iconst 1, 1) := by decide +kernel
theorem d_X4_allIsSo_44 : decode (zmc m_X4_allIsSo) 44 = .ok (.ireturn, 1) := by decide +kernel
theorem d_X4_fewestFor_0 : decode (zmc m_X4_fewestFor) 0 = .ok (.aload_n 0, 1) := by decide +kernel
theorem d_X4_fewestFor_1 : decode (zmc m_X4_fewestFor) 1 = .ok (.getfield 16, 3) := by decide +kernel
theorem d_X4_fewestFor_4 : decode (zmc m_X4_fewestFor) 4 = .ok (.invokevirtual 29, 3) := by decide +kernel
theorem d_X4_fewestFor_7 : decode (zmc m_X4_fewestFor) 7 = .ok (.istore_n 2, 1) := by decide +kernel
theorem d_X4_fewestFor_8 : decode (zmc m_X4_fewestFor) 8 = .ok (.iconst (-1), 1) := by decide +kernel
theorem d_X4_fewestFor_9 : decode (zmc m_X4_fewestFor) 9 = .ok (.istore_n 3, 1) := by decide +kernel
theorem d_X4_fewestFor_10 : decode (zmc m_X4_fewestFor) 10 = .ok (.iconst 0, 1) := by decide +kernel
theorem d_X4_fewestFor_11 : decode (zmc m_X4_fewestFor) 11 = .ok (.istore 4, 2) := by decide +kernel
theorem d_X4_fewestFor_13 : decode (zmc m_X4_fewestFor) 13 = .ok (.iload 4, 2) := by decide +kernel
theorem d_X4_fewestFor_15 : decode (zmc m_X4_fewestFor) 15 = .ok (.iload_n 2, 1) := by decide +kernel
theorem d_X4_fewestFor_16 : decode (zmc m_X4_fewestFor) 16 = .ok (.if_icmp .gt 59, 3) := by decide +kernel
theorem d_X4_fewestFor_19 : decode (zmc m_X4_fewestFor) 19 = .ok (.iload_n 3, 1) := by decide +kernel
theorem d_X4_fewestFor_20 : decode (zmc m_X4_fewestFor) 20 = .ok (.ifCond .lt 15, 3) := by decide +kernel
theorem d_X4_fewestFor_23 : decode (zmc m_X4_fewestFor) 23 = .ok (.iload 4, 2) := by decide +kernel
theorem d_X4_fewestFor_25 : decode (zmc m_X4_fewestFor) 25 = .ok (.invokestatic 33, 3) := by decide +kernel
theorem d_X4_fewestFor_28 : decode (zmc m_X4_fewestFor) 28 = .ok (.iload_n 3, 1) := by decide +kernel
theorem d_X4_fewestFor_29 : decode (zmc m_X4_fewestFor) 29 = .ok (.invokestatic 33, 3) := by decide +kernel
theorem d_X4_fewestFor_32 : decode (zmc m_X4_fewestFor) 32 = .ok (.if_icmp .ge 7, 3) := by decide +kernel
theorem d_X4_fewestFor_35 : decode (zmc m_X4_fewestFor) 35 = .ok (.iconst 1, 1) := by decide +kernel
theorem d_X4_fewestFor_36 : decode (zmc m_X4_fewestFor) 36 = .ok (.goto 4, 3) := by decide +kernel
theorem d_X4_fewestFor_39 : decode (zmc m_X4_fewestFor) 39 = .ok (.iconst 0, 1) := by decide +kernel
theorem d_X4_fewestFor_40 : decode (zmc m_X4_fewestFor) 40 = .ok (.istore 5, 2) := by decide +kernel
theorem d_X4_fewestFor_42 : decode (zmc m_X4_fewestFor) 42 = .ok (.iload 4, 2) := by decide +kernel
theorem d_X4_fewestFor_44 : decode (zmc m_X4_fewestFor) 44 = .ok (.iload_n 2, 1) := by decide +kernel
theorem d_X4_fewestFor_45 : decode (zmc m_X4_fewestFor) 45 = .ok (.iconst (-1), 1) := by decide +kernel
theorem d_X4_fewestFor_46 : decode (zmc m_X4_fewestFor) 46 = .ok (.ixor, 1) := by decide +kernel
theorem d_X4_fewestFor_47 : decode (zmc m_X4_fewestFor) 47 = .ok (.iand, 1) := by decide +kernel
theorem d_X4_fewestFor_48 : decode (zmc m_X4_fewestFor) 48 = .ok (.ifCond .ne 21, 3) := by decide +kernel
theorem d_X4_fewestFor_51 : decode (zmc m_X4_fewestFor) 51 = .ok (.iload 5, 2) := by decide +kernel
theorem d_X4_fewestFor_53 : decode (zmc m_X4_fewestFor) 53 = .ok (.ifCond .eq 16, 3) := by decide +kernel
theorem d_X4_fewestFor_56 : decode (zmc m_X4_fewestFor) 56 = .ok (.aload_n 0, 1) := by decide +kernel
theorem d_X4_fewestFor_57 : decode (zmc m_X4_fewestFor) 57 = .ok (.iload 4, 2) := by decide +kernel
theorem d_X4_fewestFor_59 : decode (zmc m_X4_fewestFor) 59 = .ok (.iload_n 1, 1) := by decide +kernel
theorem d_X4_fewestFor_60 : decode (zmc m_X4_fewestFor) 60 = .ok (.invokevirtual 39, 3) := by decide +kernel
theorem d_X4_fewestFor_63 : decode (zmc m_X4_fewestFor) 63 = .ok (.ifCond .eq 6, 3) := by decide +kernel
theorem d_X4_fewestFor_66 : decode (zmc m_X4_fewestFor) 66 = .ok (.iload 4, 2) := by decide +kernel
theorem d_X4_fewestFor_68 : decode (zmc m_X4_fewestFor) 68 = .ok (.istore_n 3, 1) := by decide +kernel
theorem d_X4_fewestFor_69 : decode (zmc m_X4_fewestFor) 69 = .ok (.iinc 4 1, 3) := by decide +kernel
theorem d_X4_fewestFor_72 : decode (zmc m_X4_fewestFor) 72 = .ok (.goto (-59), 3) := by decide +kernel
theorem d_X4_fewestFor_75 : decode (zmc m_X4_fewestFor) 75 = .ok (.iload_n 3, 1) := by decide +kernel
theorem d_X4_fewestFor_76 : decode (zmc m_X4_fewestFor) 76 = .ok (.ireturn, 1) := by decide +kernel
theorem d_X4_findWrong_0 : decode (zmc m_X4_findWrong) 0 = .ok (.aload_n 0, 1) := by decide +kernel
theorem d_X4_findWrong_1 : decode (zmc m_X4_findWrong) 1 = .ok (.getfield 16, 3) := by decide +kernel
theorem d_X4_findWrong_4 : decode (zmc m_X4_findWrong) 4 = .ok (.iconst 4, 1) := by decide +kernel
theorem d_X4_findWrong_5 : decode (zmc m_X4_findWrong) 5 = .ok (.invokevirtual 54, 3) := by decide +kernel
theorem d_X4_findWrong_8 : decode (zmc m_X4_findWrong) 8 = .ok (.istore_n 1, 1) := by decide +kernel
theorem d_X4_findWrong_9 : decode (zmc m_X4_findWrong) 9 = .ok (.aload_n 0, 1) := by decide +kernel
theorem d_X4_findWrong_10 : decode (zmc m_X4_findWrong) 10 = .ok (.iconst 0, 1) := by decide +kernel
theorem d_X4_findWrong_11 : decode (zmc m_X4_findWrong) 11 = .ok (.putfield 57, 3) := by decide +kernel
theorem d_X4_findWrong_14 : decode (zmc m_X4_findWrong) 14 = .ok (.aload_n 0, 1) := by decide +kernel
theorem d_X4_findWrong_15 : decode (zmc m_X4_findWrong) 15 = .ok (.iconst 0, 1) := by decide +kernel
theorem d_X4_findWrong_16 : decode (zmc m_X4_findWrong) 16 = .ok (.putfield 60, 3) := by decide +kernel
theorem d_X4_findWrong_19 : decode (zmc m_X4_findWrong) 19 = .ok (.iconst 0, 1) := by decide +kernel
theorem d_X4_findWrong_20 : decode (zmc m_X4_findWrong) 20 = .ok (.istore_n 2, 1) := by decide +kernel
theorem d_X4_findWrong_21 : decode (zmc m_X4_findWrong) 21 = .ok (.iload_n 2, 1) := by decide +kernel
theorem d_X4_findWrong_22 : decode (zmc m_X4_findWrong) 22 = .ok (.iload_n 1, 1) := by decide +kernel
theorem d_X4_findWrong_23 : decode (zmc m_X4_findWrong) 23 = .ok (.if_icmp .gt 68, 3) := by decide +kernel
theorem d_X4_findWrong_26 : decode (zmc m_X4_findWrong) 26 = .ok (.iload_n 2, 1) := by decide +kernel
theorem d_X4_findWrong_27 : decode (zmc m_X4_findWrong) 27 = .ok (.iload_n 1, 1) := by decide +kernel
theorem d_X4_findWrong_28 : decode (zmc m_X4_findWrong) 28 = .ok (.iconst (-1), 1) := by decide +kernel
theorem d_X4_findWrong_29 : decode (zmc m_X4_findWrong) 29 = .ok (.ixor, 1) := by decide +kernel
theorem d_X4_findWrong_30 : decode (zmc m_X4_findWrong) 30 = .ok (.iand, 1) := by decide +kernel
theorem d_X4_findWrong_31 : decode (zmc m_X4_findWrong) 31 = .ok (.ifCond .ne 54, 3) := by decide +kernel
theorem d_X4_findWrong_34 : decode (zmc m_X4_findWrong) 34 = .ok (.aload_n 0, 1) := by decide +kernel
theorem d_X4_findWrong_35 : decode (zmc m_X4_findWrong) 35 = .ok (.iload_n 1, 1) := by decide +kernel
theorem d_X4_findWrong_36 : decode (zmc m_X4_findWrong) 36 = .ok (.iload_n 2, 1) := by decide +kernel
theorem d_X4_findWrong_37 : decode (zmc m_X4_findWrong) 37 = .ok (.iconst (-1), 1) := by decide +kernel
theorem d_X4_findWrong_38 : decode (zmc m_X4_findWrong) 38 = .ok (.ixor, 1) := by decide +kernel
theorem d_X4_findWrong_39 : decode (zmc m_X4_findWrong) 39 = .ok (.iand, 1) := by decide +kernel
theorem d_X4_findWrong_40 : decode (zmc m_X4_findWrong) 40 = .ok (.invokevirtual 63, 3) := by decide +kernel
theorem d_X4_findWrong_43 : decode (zmc m_X4_findWrong) 43 = .ok (.ifCond .ne 6, 3) := by decide +kernel
theorem d_X4_findWrong_46 : decode (zmc m_X4_findWrong) 46 = .ok (.goto 39, 3) := by decide +kernel
theorem d_X4_findWrong_49 : decode (zmc m_X4_findWrong) 49 = .ok (.aload_n 0, 1) := by decide +kernel
theorem d_X4_findWrong_50 : decode (zmc m_X4_findWrong) 50 = .ok (.getfield 57, 3) := by decide +kernel
theorem d_X4_findWrong_53 : decode (zmc m_X4_findWrong) 53 = .ok (.ifCond .eq 17, 3) := by decide +kernel
theorem d_X4_findWrong_56 : decode (zmc m_X4_findWrong) 56 = .ok (.iload_n 2, 1) := by decide +kernel
theorem d_X4_findWrong_57 : decode (zmc m_X4_findWrong) 57 = .ok (.invokestatic 33, 3) := by decide +kernel
theorem d_X4_findWrong_60 : decode (zmc m_X4_findWrong) 60 = .ok (.aload_n 0, 1) := by decide +kernel
theorem d_X4_findWrong_61 : decode (zmc m_X4_findWrong) 61 = .ok (.getfield 60, 3) := by decide +kernel
theorem d_X4_findWrong_64 : decode (zmc m_X4_findWrong) 64 = .ok (.invokestatic 33, 3) := by decide +kernel
theorem d_X4_findWrong_67 : decode (zmc m_X4_findWrong) 67 = .ok (.if_icmp .ge 8, 3) := by decide +kernel
theorem d_X4_findWrong_70 : decode (zmc m_X4_findWrong) 70 = .ok (.aload_n 0, 1) := by decide +kernel
theorem d_X4_findWrong_71 : decode (zmc m_X4_findWrong) 71 = .ok (.iload_n 2, 1) := by decide +kernel
theorem d_X4_findWrong_72 : decode (zmc m_X4_findWrong) 72 = .ok (.putfield 60, 3) := by decide +kernel
theorem d_X4_findWrong_75 : decode (zmc m_X4_findWrong) 75 = .ok (.aload_n 0, 1) := by decide +kernel
theorem d_X4_findWrong_76 : decode (zmc m_X4_findWrong) 76 = .ok (.dup, 1) := by decide +kernel
theorem d_X4_findWrong_77 : decode (zmc m_X4_findWrong) 77 = .ok (.getfield 57, 3) := by decide +kernel
theorem d_X4_findWrong_80 : decode (zmc m_X4_findWrong) 80 = .ok (.iconst 1, 1) := by decide +kernel
theorem d_X4_findWrong_81 : decode (zmc m_X4_findWrong) 81 = .ok (.iadd, 1) := by decide +kernel
theorem d_X4_findWrong_82 : decode (zmc m_X4_findWrong) 82 = .ok (.putfield 57, 3) := by decide +kernel
theorem d_X4_findWrong_85 : decode (zmc m_X4_findWrong) 85 = .ok (.iinc 2 1, 3) := by decide +kernel
theorem d_X4_findWrong_88 : decode (zmc m_X4_findWrong) 88 = .ok (.goto (-67), 3) := by decide +kernel
theorem d_X4_findWrong_91 : decode (zmc m_X4_findWrong) 91 = .ok (.return_, 1) := by decide +kernel
theorem d_X4_readHomes_0 : decode (zmc m_X4_readHomes) 0 = .ok (.aload_n 0, 1) := by decide +kernel
theorem d_X4_readHomes_1 : decode (zmc m_X4_readHomes) 1 = .ok (.iconst 0, 1) := by decide +kernel
theorem d_X4_readHomes_2 : decode (zmc m_X4_readHomes) 2 = .ok (.putfield 43, 3) := by decide +kernel
theorem d_X4_readHomes_5 : decode (zmc m_X4_readHomes) 5 = .ok (.iconst 0, 1) := by decide +kernel
theorem d_X4_readHomes_6 : decode (zmc m_X4_readHomes) 6 = .ok (.istore_n 2, 1) := by decide +kernel
theorem d_X4_readHomes_7 : decode (zmc m_X4_readHomes) 7 = .ok (.iload_n 2, 1) := by decide +kernel
theorem d_X4_readHomes_8 : decode (zmc m_X4_readHomes) 8 = .ok (.bipush 12, 2) := by decide +kernel
theorem d_X4_readHomes_10 : decode (zmc m_X4_readHomes) 10 = .ok (.if_icmp .ge 75, 3) := by decide +kernel
theorem d_X4_readHomes_13 : decode (zmc m_X4_readHomes) 13 = .ok (.aload_n 1, 1) := by decide +kernel
theorem d_X4_readHomes_14 : decode (zmc m_X4_readHomes) 14 = .ok (.iconst 2, 1) := by decide +kernel
theorem d_X4_readHomes_15 : decode (zmc m_X4_readHomes) 15 = .ok (.iload_n 2, 1) := by decide +kernel
theorem d_X4_readHomes_16 : decode (zmc m_X4_readHomes) 16 = .ok (.imul, 1) := by decide +kernel
theorem d_X4_readHomes_17 : decode (zmc m_X4_readHomes) 17 = .ok (.invokevirtual 46, 3) := by decide +kernel
theorem d_X4_readHomes_20 : decode (zmc m_X4_readHomes) 20 = .ok (.istore_n 3, 1) := by decide +kernel
theorem d_X4_readHomes_21 : decode (zmc m_X4_readHomes) 21 = .ok (.aload_n 1, 1) := by decide +kernel
theorem d_X4_readHomes_22 : decode (zmc m_X4_readHomes) 22 = .ok (.iconst 2, 1) := by decide +kernel
theorem d_X4_readHomes_23 : decode (zmc m_X4_readHomes) 23 = .ok (.iload_n 2, 1) := by decide +kernel
theorem d_X4_readHomes_24 : decode (zmc m_X4_readHomes) 24 = .ok (.imul, 1) := by decide +kernel
theorem d_X4_readHomes_25 : decode (zmc m_X4_readHomes) 25 = .ok (.iconst 1, 1) := by decide +kernel
theorem d_X4_readHomes_26 : decode (zmc m_X4_readHomes) 26 = .ok (.iadd, 1) := by decide +kernel
theorem d_X4_readHomes_27 : decode (zmc m_X4_readHomes) 27 = .ok (.invokevirtual 46, 3) := by decide +kernel
theorem d_X4_readHomes_30 : decode (zmc m_X4_readHomes) 30 = .ok (.istore 4, 2) := by decide +kernel
theorem d_X4_readHomes_32 : decode (zmc m_X4_readHomes) 32 = .ok (.aload_n 0, 1) := by decide +kernel
theorem d_X4_readHomes_33 : decode (zmc m_X4_readHomes) 33 = .ok (.getfield 16, 3) := by decide +kernel
theorem d_X4_readHomes_36 : decode (zmc m_X4_readHomes) 36 = .ok (.bipush 8, 2) := by decide +kernel
theorem d_X4_readHomes_38 : decode (zmc m_X4_readHomes) 38 = .ok (.iload_n 3, 1) := by decide +kernel
theorem d_X4_readHomes_39 : decode (zmc m_X4_readHomes) 39 = .ok (.invokevirtual 51, 3) := by decide +kernel
theorem d_X4_readHomes_42 : decode (zmc m_X4_readHomes) 42 = .ok (.ifCond .eq 14, 3) := by decide +kernel
theorem d_X4_readHomes_45 : decode (zmc m_X4_readHomes) 45 = .ok (.iload 4, 2) := by decide +kernel
theorem d_X4_readHomes_47 : decode (zmc m_X4_readHomes) 47 = .ok (.ifCond .lt 9, 3) := by decide +kernel
theorem d_X4_readHomes_50 : decode (zmc m_X4_readHomes) 50 = .ok (.iload 4, 2) := by decide +kernel
theorem d_X4_readHomes_52 : decode (zmc m_X4_readHomes) 52 = .ok (.iconst 1, 1) := by decide +kernel
theorem d_X4_readHomes_53 : decode (zmc m_X4_readHomes) 53 = .ok (.if_icmp .le 4, 3) := by decide +kernel
theorem d_X4_readHomes_56 : decode (zmc m_X4_readHomes) 56 = .ok (.return_, 1) := by decide +kernel
theorem d_X4_readHomes_57 : decode (zmc m_X4_readHomes) 57 = .ok (.aload_n 0, 1) := by decide +kernel
theorem d_X4_readHomes_58 : decode (zmc m_X4_readHomes) 58 = .ok (.getfield 9, 3) := by decide +kernel
theorem d_X4_readHomes_61 : decode (zmc m_X4_readHomes) 61 = .ok (.iload_n 2, 1) := by decide +kernel
theorem d_X4_readHomes_62 : decode (zmc m_X4_readHomes) 62 = .ok (.iload_n 3, 1) := by decide +kernel
theorem d_X4_readHomes_63 : decode (zmc m_X4_readHomes) 63 = .ok (.iastore, 1) := by decide +kernel
theorem d_X4_readHomes_64 : decode (zmc m_X4_readHomes) 64 = .ok (.aload_n 0, 1) := by decide +kernel
theorem d_X4_readHomes_65 : decode (zmc m_X4_readHomes) 65 = .ok (.getfield 13, 3) := by decide +kernel
theorem d_X4_readHomes_68 : decode (zmc m_X4_readHomes) 68 = .ok (.iload_n 2, 1) := by decide +kernel
theorem d_X4_readHomes_69 : decode (zmc m_X4_readHomes) 69 = .ok (.iload 4, 2) := by decide +kernel
theorem d_X4_readHomes_71 : decode (zmc m_X4_readHomes) 71 = .ok (.iastore, 1) := by decide +kernel
theorem d_X4_readHomes_72 : decode (zmc m_X4_readHomes) 72 = .ok (.aload_n 0, 1) := by decide +kernel
theorem d_X4_readHomes_73 : decode (zmc m_X4_readHomes) 73 = .ok (.iload_n 2, 1) := by decide +kernel
theorem d_X4_readHomes_74 : decode (zmc m_X4_readHomes) 74 = .ok (.iconst 1, 1) := by decide +kernel
theorem d_X4_readHomes_75 : decode (zmc m_X4_readHomes) 75 = .ok (.iadd, 1) := by decide +kernel
theorem d_X4_readHomes_76 : decode (zmc m_X4_readHomes) 76 = .ok (.putfield 43, 3) := by decide +kernel
theorem d_X4_readHomes_79 : decode (zmc m_X4_readHomes) 79 = .ok (.iinc 2 1, 3) := by decide +kernel
theorem d_X4_readHomes_82 : decode (zmc m_X4_readHomes) 82 = .ok (.goto (-75), 3) := by decide +kernel
theorem d_X4_readHomes_85 : decode (zmc m_X4_readHomes) 85 = .ok (.return_, 1) := by decide +kernel
theorem d_X4_serves_0 : decode (zmc m_X4_serves) 0 = .ok (.iconst 0, 1) := by decide +kernel
theorem d_X4_serves_1 : decode (zmc m_X4_serves) 1 = .ok (.istore_n 3, 1) := by decide +kernel
theorem d_X4_serves_2 : decode (zmc m_X4_serves) 2 = .ok (.iload_n 3, 1) := by decide +kernel
theorem d_X4_serves_3 : decode (zmc m_X4_serves) 3 = .ok (.aload_n 0, 1) := by decide +kernel
theorem d_X4_serves_4 : decode (zmc m_X4_serves) 4 = .ok (.getfield 16, 3) := by decide +kernel
theorem d_X4_serves_7 : decode (zmc m_X4_serves) 7 = .ok (.getfield 20, 3) := by decide +kernel
theorem d_X4_serves_10 : decode (zmc m_X4_serves) 10 = .ok (.if_icmp .ge 29, 3) := by decide +kernel
theorem d_X4_serves_13 : decode (zmc m_X4_serves) 13 = .ok (.aload_n 0, 1) := by decide +kernel
theorem d_X4_serves_14 : decode (zmc m_X4_serves) 14 = .ok (.getfield 16, 3) := by decide +kernel
theorem d_X4_serves_17 : decode (zmc m_X4_serves) 17 = .ok (.getfield 26, 3) := by decide +kernel
theorem d_X4_serves_20 : decode (zmc m_X4_serves) 20 = .ok (.iload_n 3, 1) := by decide +kernel
theorem d_X4_serves_21 : decode (zmc m_X4_serves) 21 = .ok (.iaload, 1) := by decide +kernel
theorem d_X4_serves_22 : decode (zmc m_X4_serves) 22 = .ok (.iload_n 1, 1) := by decide +kernel
theorem d_X4_serves_23 : decode (zmc m_X4_serves) 23 = .ok (.iand, 1) := by decide +kernel
theorem d_X4_serves_24 : decode (zmc m_X4_serves) 24 = .ok (.invokestatic 33, 3) := by decide +kernel
theorem d_X4_serves_27 : decode (zmc m_X4_serves) 27 = .ok (.iload_n 2, 1) := by decide +kernel
theorem d_X4_serves_28 : decode (zmc m_X4_serves) 28 = .ok (.if_icmp .ge 5, 3) := by decide +kernel
theorem d_X4_serves_31 : decode (zmc m_X4_serves) 31 = .ok (.iconst 0, 1) := by decide +kernel
theorem d_X4_serves_32 : decode (zmc m_X4_serves) 32 = .ok (.ireturn, 1) := by decide +kernel
theorem d_X4_serves_33 : decode (zmc m_X4_serves) 33 = .ok (.iinc 3 1, 3) := by decide +kernel
theorem d_X4_serves_36 : decode (zmc m_X4_serves) 36 = .ok (.goto (-34), 3) := by decide +kernel
theorem d_X4_serves_39 : decode (zmc m_X4_serves) 39 = .ok (.iconst 1, 1) := by decide +kernel
theorem d_X4_serves_40 : decode (zmc m_X4_serves) 40 = .ok (.ireturn, 1) := by decide +kernel
theorem d_X4_steering_0 : decode (zmc m_X4_steering) 0 = .ok (.iconst 0, 1) := by decide +kernel
theorem d_X4_steering_1 : decode (zmc m_X4_steering) 1 = .ok (.istore_n 2, 1) := by decide +kernel
theorem d_X4_steering_2 : decode (zmc m_X4_steering) 2 = .ok (.iconst 0, 1) := by decide +kernel
theorem d_X4_steering_3 : decode (zmc m_X4_steering) 3 = .ok (.istore_n 3, 1) := by decide +kernel
theorem d_X4_steering_4 : decode (zmc m_X4_steering) 4 = .ok (.iload_n 3, 1) := by decide +kernel
theorem d_X4_steering_5 : decode (zmc m_X4_steering) 5 = .ok (.aload_n 0, 1) := by decide +kernel
theorem d_X4_steering_6 : decode (zmc m_X4_steering) 6 = .ok (.getfield 16, 3) := by decide +kernel
theorem d_X4_steering_9 : decode (zmc m_X4_steering) 9 = .ok (.getfield 20, 3) := by decide +kernel
theorem d_X4_steering_12 : decode (zmc m_X4_steering) 12 = .ok (.if_icmp .ge 29, 3) := by decide +kernel
theorem d_X4_steering_15 : decode (zmc m_X4_steering) 15 = .ok (.aload_n 0, 1) := by decide +kernel
theorem d_X4_steering_16 : decode (zmc m_X4_steering) 16 = .ok (.getfield 16, 3) := by decide +kernel
theorem d_X4_steering_19 : decode (zmc m_X4_steering) 19 = .ok (.getfield 26, 3) := by decide +kernel
theorem d_X4_steering_22 : decode (zmc m_X4_steering) 22 = .ok (.iload_n 3, 1) := by decide +kernel
theorem d_X4_steering_23 : decode (zmc m_X4_steering) 23 = .ok (.iaload, 1) := by decide +kernel
theorem d_X4_steering_24 : decode (zmc m_X4_steering) 24 = .ok (.iload_n 1, 1) := by decide +kernel
theorem d_X4_steering_25 : decode (zmc m_X4_steering) 25 = .ok (.iand, 1) := by decide +kernel
theorem d_X4_steering_26 : decode (zmc m_X4_steering) 26 = .ok (.ifCond .eq 9, 3) := by decide +kernel
theorem d_X4_steering_29 : decode (zmc m_X4_steering) 29 = .ok (.iload_n 2, 1) := by decide +kernel
theorem d_X4_steering_30 : decode (zmc m_X4_steering) 30 = .ok (.iconst 1, 1) := by decide +kernel
theorem d_X4_steering_31 : decode (zmc m_X4_steering) 31 = .ok (.iload_n 3, 1) := by decide +kernel
theorem d_X4_steering_32 : decode (zmc m_X4_steering) 32 = .ok (.ishl, 1) := by decide +kernel
theorem d_X4_steering_33 : decode (zmc m_X4_steering) 33 = .ok (.ior, 1) := by decide +kernel
theorem d_X4_steering_34 : decode (zmc m_X4_steering) 34 = .ok (.istore_n 2, 1) := by decide +kernel
theorem d_X4_steering_35 : decode (zmc m_X4_steering) 35 = .ok (.iinc 3 1, 3) := by decide +kernel
theorem d_X4_steering_38 : decode (zmc m_X4_steering) 38 = .ok (.goto (-34), 3) := by decide +kernel
theorem d_X4_steering_41 : decode (zmc m_X4_steering) 41 = .ok (.iload_n 2, 1) := by decide +kernel
theorem d_X4_steering_42 : decode (zmc m_X4_steering) 42 = .ok (.ireturn, 1) := by decide +kernel
/-! THE FLEET -/
theorem zor (a b : Nat) : nI a ||| nI b = nI (a ||| b) := by
  unfold nI
  apply Int32.toBitVec_inj.mp
  rw [Int32.toBitVec_or]
  show BitVec.ofNat 32 a ||| BitVec.ofNat 32 b = BitVec.ofNat 32 (a ||| b)
  exact (BitVec.ofNat_or (w := 32) ..).symm
theorem zpow : ∀ k, k < 31 → (1 : Int32) <<< (nI k &&& 31) = nI (2 ^ k) := by decide +kernel
theorem zbits_lt {f : Nat → Int32} {n : Nat} (hn : n ≤ 30) : ∃ j : Nat, j < 2 ^ n ∧ zbits f n = nI j := by
  have key : ∀ k, k ≤ n → ∀ i : Nat, i < 2 ^ k → ∃ j : Nat, j < 2 ^ n ∧ zfor (fun k s => if f k = 0 then s else s ||| ((1 : Int32) <<< (nI k &&& 31))) n k (nI i) = nI j := by
    refine zloop n (fun k hk ih i hi => ?_)
    rcases Nat.eq_or_lt_of_le hk with e | hlt
    · subst e
      exact ⟨i, hi, zfor_end (Nat.le_refl _)⟩
    · rw [zfor_step hlt]
      by_cases e : f k = 0
      · rw [if_pos e]
        exact ih hlt i (Nat.lt_of_lt_of_le hi (Nat.pow_le_pow_right (by decide) (Nat.le_succ k)))
      · rw [if_neg e, zpow k (by omega), zor]
        exact ih hlt _ (Nat.or_lt_two_pow (Nat.lt_of_lt_of_le hi (Nat.pow_le_pow_right (by decide) (Nat.le_succ k))) (Nat.pow_lt_pow_right (by decide) (Nat.lt_succ_self k)))
  exact key 0 (Nat.zero_le _) 0 (by decide)
theorem zmask : ∀ n, n ≤ 10 → ((1 : Int32) <<< (nI n &&& 31) - 1).toBitVec.toNat = 2 ^ n - 1 := by decide +kernel
theorem zAtHand_lt {I : Nat → Nat → Int32} {ns : Nat} (h : ns ≤ 10) : ∃ j : Nat, j < 2 ^ ns ∧ zAtHand I ns = nI j := by
  obtain ⟨j, h1, h2⟩ := pk_andE (zbits (I 8) ns ^^^ (-1)) ns (zmask ns h)
  refine ⟨j, h1, ?_⟩
  rw [← h2]
  unfold zAtHand
  rw [Int32.and_comm]
theorem zp10 {n : Nat} (h : n ≤ 10) : 2 ^ n ≤ 1024 := Nat.pow_le_pow_right (n := 2) (by decide) h
def zSteer (I : Nat → Nat → Int32) (nh : Nat) (up : Int32) : Int32 := zfor (fun k s => if I 11 k &&& up = 0 then s else s ||| ((1 : Int32) <<< (nI k &&& 31))) nh 0 0
abbrev zServ (I : Nat → Nat → Int32) (nh : Nat) (b e : Int32) : Prop := zrun (fun k => decide (e ≤ zbc (I 11 k &&& b))) nh 0 = nh
def zFewS (I : Nat → Nat → Int32) (nh : Nat) (ah e : Int32) (k : Nat) (s : Int32) : Int32 := if (s < 0 ∨ zbc (nI k) < zbc s) ∧ (nI k &&& (ah ^^^ (-1)) = 0) ∧ zServ I nh (nI k) e then nI k else s
def zFew (I : Nat → Nat → Int32) (ns nh : Nat) (e : Int32) : Int32 := zfor (zFewS I nh (zAtHand I ns) e) ((zAtHand I ns).toNatClampNeg + 1) 0 (-1)
def zHomB (I : Nat → Nat → Int32) (L : Nat → Nat → Int64) (ns nt nh h : Nat) (i : Nat) : Bool := decide ((0 ≤ zTold I L h (nI (2 * i)) ∧ zTold I L h (nI (2 * i)) < nI (zHold ns nt nh 8)) ∧ (0 ≤ zTold I L h (nI (2 * i + 1)) ∧ zTold I L h (nI (2 * i + 1)) ≤ 1))
def zHomN (I : Nat → Nat → Int32) (L : Nat → Nat → Int64) (ns nt nh h : Nat) : Nat := zrun (zHomB I L ns nt nh h) 12 0
abbrev zAllSo (I : Nat → Nat → Int32) (nh : Nat) (X Y : Nat → Int32) (n : Nat) (r : Int32) : Prop := zrun (fun i => decide ((zSteer I nh r >>> (X i &&& 31)) &&& 1 = Y i)) n 0 = n
def zWrS (I : Nat → Nat → Int32) (nh : Nat) (X Y : Nat → Int32) (n : Nat) (up : Int32) (k : Nat) (s : Int32 × Int32) : Int32 × Int32 := if (nI k &&& (up ^^^ (-1)) = 0) ∧ zAllSo I nh X Y n (up &&& (nI k ^^^ (-1))) then (s.1 + 1, if s.1 = 0 ∨ zbc (nI k) < zbc s.2 then nI k else s.2) else s
def zWr (I : Nat → Nat → Int32) (ns nh : Nat) (X Y : Nat → Int32) (n : Nat) : Int32 × Int32 := zfor (zWrS I nh X Y n (zbits (I 7) ns)) ((zbits (I 7) ns).toNatClampNeg + 1) 0 (0, 0)
section S17
variable {g : zG} {l : Launch} {d : Nat} {I : Nat → Nat → Int32} {L : Nat → Nat → Int64} {fs : Nat × Nat × Option Nat} {ns nt nh h : Nat}
theorem sp_X4_steering (hd : 1 ≤ d) (hK : zSky I ns nt nh) {up : Int32} : zPure g l d m_X4_steering [.ref 16, .int up] I L fs (.int (zSteer I nh up)) := by
  have hn := hK.2.2.2
  have loop : ∀ k, k ≤ nh → ∀ s, zfor (fun k s => if I 11 k &&& up = 0 then s else s ||| ((1 : Int32) <<< (nI k &&& 31))) nh k s = zSteer I nh up → zA g l d m_X4_steering I L fs 4 [(3, .int (nI k)), (2, .int s), (0, .ref 16), (1, .int up)] (zP (.int (zSteer I nh up)) (zU I L fs)) := by
    refine zloop nh (fun k hk ih s hx => ?_)
    refine zIloadN d_X4_steering_4 rfl rfl (q := 5) rfl ?_
    refine zAloadN d_X4_steering_5 rfl rfl (q := 6) rfl ?_
    refine zGetR d_X4_steering_6 ff_X4_16 sh_16 (by decide) r_16_0 (q := 9) rfl ?_
    refine zGetI d_X4_steering_9 ff_X4_20 sh_1 (by decide) (q := 12) rfl ?_
    refine zIcmp_ge d_X4_steering_12 (tgt := 41) (q := 15) (by decide) rfl (fun h12 => ?_) (fun h12 => ?_)
    · have e := nle (hK.1.2.2 ▸ h12)
      refine zIloadN d_X4_steering_41 rfl rfl (q := 42) rfl ?_
      refine zIret d_X4_steering_42 rfl rfl rfl ?_
      exact zPi (by rw [← hx, zfor_end e])
    · have hlt := nnle (hK.1.2.2 ▸ h12)
      rw [zfor_step hlt] at hx
      refine zAloadN d_X4_steering_15 rfl rfl (q := 16) rfl ?_
      refine zGetR d_X4_steering_16 ff_X4_16 sh_16 (by decide) r_16_0 (q := 19) rfl ?_
      refine zGetR d_X4_steering_19 ff_X4_26 sh_1 (by decide) r_1_1 (q := 22) rfl ?_
      refine zIloadN d_X4_steering_22 rfl rfl (q := 23) rfl ?_
      refine zIald d_X4_steering_23 sh_11 (by decide) rfl (by omega) (q := 24) rfl ?_
      refine zIloadN d_X4_steering_24 rfl rfl (q := 25) rfl ?_
      refine zIand d_X4_steering_25 (q := 26) rfl ?_
      refine zIf_eq d_X4_steering_26 (tgt := 35) (q := 29) (by decide) rfl (fun h26 => ?_) (fun h26 => ?_)
      · refine zIinc d_X4_steering_35 rfl (zinc _) (by decide) rfl (q := 38) rfl ?_
        refine zGoto d_X4_steering_38 (q := 4) (by decide) ?_
        refine zSub [0, 1, 2, 3] rfl ?_
        exact ih hlt _ (by rw [← hx]; congr 1; first | exact (if_pos h26).symm | exact (if_neg h26).symm)
      · refine zIloadN d_X4_steering_29 rfl rfl (q := 30) rfl ?_
        refine zIconst d_X4_steering_30 (v := 1) ic_1 (q := 31) rfl ?_
        refine zIloadN d_X4_steering_31 rfl rfl (q := 32) rfl ?_
        refine zIshl d_X4_steering_32 (q := 33) rfl ?_
        refine zIor d_X4_steering_33 (q := 34) rfl ?_
        refine zIstoreN d_X4_steering_34 rfl (by decide) rfl (q := 35) rfl ?_
        refine zIinc d_X4_steering_35 rfl (zinc _) (by decide) rfl (q := 38) rfl ?_
        refine zGoto d_X4_steering_38 (q := 4) (by decide) ?_
        refine zSub [0, 1, 2, 3] rfl ?_
        exact ih hlt _ (by rw [← hx]; congr 1; first | exact (if_pos h26).symm | exact (if_neg h26).symm)
  refine zSp_of (lv := [(0, .ref 16), (1, .int up)]) k_X4_steering rfl (Nat.le_of_ble_eq_true rfl) ?_
  refine zIconst d_X4_steering_0 (v := 0) ic_0 (q := 1) rfl ?_
  refine zIstoreN d_X4_steering_1 rfl (by decide) rfl (q := 2) rfl ?_
  refine zIconst d_X4_steering_2 (v := 0) ic_0 (q := 3) rfl ?_
  refine zIstoreN d_X4_steering_3 rfl (by decide) rfl (q := 4) rfl ?_
  refine zSub [0, 1, 2, 3] rfl ?_
  exact loop 0 (Nat.zero_le _) 0 rfl
theorem sp_X4_serves (hd : 2 ≤ d) (hK : zSky I ns nt nh) {b e : Int32} : zPure g l d m_X4_serves [.ref 16, .int b, .int e] I L fs (.int (bi (zServ I nh b e))) := by
  have hn := hK.2.2.2
  have loop : ∀ k, k ≤ nh → zrun (fun k => decide (e ≤ zbc (I 11 k &&& b))) nh k = zrun (fun k => decide (e ≤ zbc (I 11 k &&& b))) nh 0 → zA g l d m_X4_serves I L fs 2 [(3, .int (nI k)), (0, .ref 16), (1, .int b), (2, .int e)] (zP (.int (bi (zServ I nh b e))) (zU I L fs)) := by
    refine zloop nh (fun k hk ih hx => ?_)
    refine zIloadN d_X4_serves_2 rfl rfl (q := 3) rfl ?_
    refine zAloadN d_X4_serves_3 rfl rfl (q := 4) rfl ?_
    refine zGetR d_X4_serves_4 ff_X4_16 sh_16 (by decide) r_16_0 (q := 7) rfl ?_
    refine zGetI d_X4_serves_7 ff_X4_20 sh_1 (by decide) (q := 10) rfl ?_
    refine zIcmp_ge d_X4_serves_10 (tgt := 39) (q := 13) (by decide) rfl (fun h10 => ?_) (fun h10 => ?_)
    · have ek := nle (hK.1.2.2 ▸ h10)
      refine zIconst d_X4_serves_39 (v := 1) ic_1 (q := 40) rfl ?_
      refine zIret d_X4_serves_40 rfl rfl rfl ?_
      exact zPi (bi_t (by show zrun _ nh 0 = nh; rw [← hx, zrun_end ek]; omega)).symm
    · have hlt := nnle (hK.1.2.2 ▸ h10)
      refine zAloadN d_X4_serves_13 rfl rfl (q := 14) rfl ?_
      refine zGetR d_X4_serves_14 ff_X4_16 sh_16 (by decide) r_16_0 (q := 17) rfl ?_
      refine zGetR d_X4_serves_17 ff_X4_26 sh_1 (by decide) r_1_1 (q := 20) rfl ?_
      refine zIloadN d_X4_serves_20 rfl rfl (q := 21) rfl ?_
      refine zIald d_X4_serves_21 sh_11 (by decide) rfl (by omega) (q := 22) rfl ?_
      refine zIloadN d_X4_serves_22 rfl rfl (q := 23) rfl ?_
      refine zIand d_X4_serves_23 (q := 24) rfl ?_
      refine zCallSP d_X4_serves_24 ml_X4_33 k_J6_bitCount kt_J6_bitCount (sp_J6_bitCount (d := d - 1) (by omega) ) rfl rfl (Nat.le_of_ble_eq_true rfl) (by decide) (by omega) zns100 (q := 27) rfl ?_
      refine zIloadN d_X4_serves_27 rfl rfl (q := 28) rfl ?_
      refine zIcmp_ge d_X4_serves_28 (tgt := 33) (q := 31) (by decide) rfl (fun h28 => ?_) (fun h28 => ?_)
      · refine zIinc d_X4_serves_33 rfl (zinc _) (by decide) rfl (q := 36) rfl ?_
        refine zGoto d_X4_serves_36 (q := 2) (by decide) ?_
        refine zSub [0, 1, 2, 3] rfl ?_
        exact ih hlt (by rw [← hx, zrun_t hlt (by rw [decide_eq_true_eq]; exact h28)])
      · refine zIconst d_X4_serves_31 (v := 0) ic_0 (q := 32) rfl ?_
        refine zIret d_X4_serves_32 rfl rfl rfl ?_
        have hr := zrun_f (p := fun k => decide (e ≤ zbc (I 11 k &&& b))) (n := nh) (k := k) (by rw [decide_eq_true_eq]; exact h28)
        exact zPi (bi_f (fun q => by rw [hr] at hx; have q' : zrun (fun k => decide (e ≤ zbc (I 11 k &&& b))) nh 0 = nh := q; omega)).symm
  refine zSp_of (lv := [(0, .ref 16), (1, .int b), (2, .int e)]) k_X4_serves rfl (Nat.le_of_ble_eq_true rfl) ?_
  refine zIconst d_X4_serves_0 (v := 0) ic_0 (q := 1) rfl ?_
  refine zIstoreN d_X4_serves_1 rfl (by decide) rfl (q := 2) rfl ?_
  refine zSub [0, 1, 2, 3] rfl ?_
  exact loop 0 (Nat.zero_le _) rfl
theorem sp_X4_fewestFor (hd : 6 ≤ d) (hK : zSky I ns nt nh) {e : Int32} : zPure g l d m_X4_fewestFor [.ref 16, .int e] I L fs (.int (zFew I ns nh e)) := by
  obtain ⟨A, hA1, hA⟩ := zAtHand_lt (I := I) hK.2.1
  have hA2 := zp10 hK.2.1
  have hF : zFew I ns nh e = zfor (zFewS I nh (nI A) e) (A + 1) 0 (-1) := by unfold zFew; rw [hA, zcl_n (by omega)]
  have loop : ∀ k, k ≤ A + 1 → ∀ s, zfor (zFewS I nh (nI A) e) (A + 1) k s = zFew I ns nh e → zA g l d m_X4_fewestFor I L fs 13 [(4, .int (nI k)), (3, .int s), (2, .int (nI A)), (0, .ref 16), (1, .int e)] (zP (.int (zFew I ns nh e)) (zU I L fs)) := by
    refine zloop (A + 1) (fun k hk ih s hx => ?_)
    refine zIload d_X4_fewestFor_13 rfl (q := 15) rfl ?_
    refine zIloadN d_X4_fewestFor_15 rfl rfl (q := 16) rfl ?_
    refine zIcmp_gt d_X4_fewestFor_16 (tgt := 75) (q := 19) (by decide) rfl (fun h16 => ?_) (fun h16 => ?_)
    · have ek := nlt h16
      refine zIloadN d_X4_fewestFor_75 rfl rfl (q := 76) rfl ?_
      refine zIret d_X4_fewestFor_76 rfl rfl rfl ?_
      exact zPi (by rw [← hx, zfor_end (by omega)])
    · have hlt := nnlt h16
      rw [zfor_step (by omega)] at hx
      refine zIloadN d_X4_fewestFor_19 rfl rfl (q := 20) rfl ?_
      refine zIf_lt d_X4_fewestFor_20 (tgt := 35) (q := 23) (by decide) rfl (fun h20 => ?_) (fun h20 => ?_)
      · have hcc : s < 0 ∨ zbc (nI k) < zbc s := Or.inl h20
        refine zIconst d_X4_fewestFor_35 (v := 1) ic_1 (q := 36) rfl ?_
        refine zGoto d_X4_fewestFor_36 (q := 40) (by decide) ?_
        refine zIstore d_X4_fewestFor_40 (by decide) rfl (q := 42) rfl ?_
        refine zIload d_X4_fewestFor_42 rfl (q := 44) rfl ?_
        refine zIloadN d_X4_fewestFor_44 rfl rfl (q := 45) rfl ?_
        refine zIconst d_X4_fewestFor_45 (v := -1) ic_m1 (q := 46) rfl ?_
        refine zIxor d_X4_fewestFor_46 (q := 47) rfl ?_
        refine zIand d_X4_fewestFor_47 (q := 48) rfl ?_
        refine zIf_ne d_X4_fewestFor_48 (tgt := 69) (q := 51) (by decide) rfl (fun h48 => ?_) (fun h48 => ?_)
        · refine zIinc d_X4_fewestFor_69 rfl (zinc _) (by decide) rfl (q := 72) rfl ?_
          refine zGoto d_X4_fewestFor_72 (q := 13) (by decide) ?_
          refine zSub [0, 2, 3, 4, 5] rfl ?_
          refine ih (by omega) _ ?_
          rw [← hx]
          congr 1
          unfold zFewS
          first | exact (if_neg (fun q => hn32 q.1)).symm | exact (if_neg (fun q => h48 q.2.1)).symm | exact (if_neg (fun q => bi_0.mp h63 q.2.2)).symm | exact (if_pos (And.intro hcc (And.intro h48 (bi_n0.mp h63)))).symm
        · refine zIload d_X4_fewestFor_51 rfl (q := 53) rfl ?_
          refine zIf_eq d_X4_fewestFor_53 (tgt := 69) (q := 56) (by decide) rfl (fun h => absurd h (by decide)) (fun _ => ?_)
          refine zAloadN d_X4_fewestFor_56 rfl rfl (q := 57) rfl ?_
          refine zIload d_X4_fewestFor_57 rfl (q := 59) rfl ?_
          refine zIloadN d_X4_fewestFor_59 rfl rfl (q := 60) rfl ?_
          refine zCallVP d_X4_fewestFor_60 ml_X4_39 k_X4_serves ki_X4_serves ks_X4_serves (sp_X4_serves (d := d - 1) (by omega) hK) rfl rfl sh_16 (by decide) rfl (by decide) (Nat.le_of_ble_eq_true rfl) (by decide) (by omega) zns100 (q := 63) rfl ?_
          refine zIf_eq d_X4_fewestFor_63 (tgt := 69) (q := 66) (by decide) rfl (fun h63 => ?_) (fun h63 => ?_)
          · refine zIinc d_X4_fewestFor_69 rfl (zinc _) (by decide) rfl (q := 72) rfl ?_
            refine zGoto d_X4_fewestFor_72 (q := 13) (by decide) ?_
            refine zSub [0, 2, 3, 4, 5] rfl ?_
            refine ih (by omega) _ ?_
            rw [← hx]
            congr 1
            unfold zFewS
            first | exact (if_neg (fun q => hn32 q.1)).symm | exact (if_neg (fun q => h48 q.2.1)).symm | exact (if_neg (fun q => bi_0.mp h63 q.2.2)).symm | exact (if_pos (And.intro hcc (And.intro h48 (bi_n0.mp h63)))).symm
          · refine zIload d_X4_fewestFor_66 rfl (q := 68) rfl ?_
            refine zIstoreN d_X4_fewestFor_68 rfl (by decide) rfl (q := 69) rfl ?_
            refine zIinc d_X4_fewestFor_69 rfl (zinc _) (by decide) rfl (q := 72) rfl ?_
            refine zGoto d_X4_fewestFor_72 (q := 13) (by decide) ?_
            refine zSub [0, 1, 3, 4, 5] rfl ?_
            refine ih (by omega) _ ?_
            rw [← hx]
            congr 1
            unfold zFewS
            first | exact (if_neg (fun q => hn32 q.1)).symm | exact (if_neg (fun q => h48 q.2.1)).symm | exact (if_neg (fun q => bi_0.mp h63 q.2.2)).symm | exact (if_pos (And.intro hcc (And.intro h48 (bi_n0.mp h63)))).symm
      · refine zIload d_X4_fewestFor_23 rfl (q := 25) rfl ?_
        refine zCallSP d_X4_fewestFor_25 ml_X4_33 k_J6_bitCount kt_J6_bitCount (sp_J6_bitCount (d := d - 1) (by omega) ) rfl rfl (Nat.le_of_ble_eq_true rfl) (by decide) (by omega) zns100 (q := 28) rfl ?_
        refine zIloadN d_X4_fewestFor_28 rfl rfl (q := 29) rfl ?_
        refine zCallSP d_X4_fewestFor_29 ml_X4_33 k_J6_bitCount kt_J6_bitCount (sp_J6_bitCount (d := d - 1) (by omega) ) rfl rfl (Nat.le_of_ble_eq_true rfl) (by decide) (by omega) zns100 (q := 32) rfl ?_
        refine zIcmp_ge d_X4_fewestFor_32 (tgt := 39) (q := 35) (by decide) rfl (fun h32 => ?_) (fun h32 => ?_)
        · have hn32 : ¬ (s < 0 ∨ zbc (nI k) < zbc s) := by rintro (q | q); exact h20 q; exact absurd h32 (Int32.not_le.mpr q)
          refine zIconst d_X4_fewestFor_39 (v := 0) ic_0 (q := 40) rfl ?_
          refine zIstore d_X4_fewestFor_40 (by decide) rfl (q := 42) rfl ?_
          refine zIload d_X4_fewestFor_42 rfl (q := 44) rfl ?_
          refine zIloadN d_X4_fewestFor_44 rfl rfl (q := 45) rfl ?_
          refine zIconst d_X4_fewestFor_45 (v := -1) ic_m1 (q := 46) rfl ?_
          refine zIxor d_X4_fewestFor_46 (q := 47) rfl ?_
          refine zIand d_X4_fewestFor_47 (q := 48) rfl ?_
          refine zIf_ne d_X4_fewestFor_48 (tgt := 69) (q := 51) (by decide) rfl (fun h48 => ?_) (fun h48 => ?_)
          · refine zIinc d_X4_fewestFor_69 rfl (zinc _) (by decide) rfl (q := 72) rfl ?_
            refine zGoto d_X4_fewestFor_72 (q := 13) (by decide) ?_
            refine zSub [0, 2, 3, 4, 5] rfl ?_
            refine ih (by omega) _ ?_
            rw [← hx]
            congr 1
            unfold zFewS
            first | exact (if_neg (fun q => hn32 q.1)).symm | exact (if_neg (fun q => h48 q.2.1)).symm | exact (if_neg (fun q => bi_0.mp h63 q.2.2)).symm | exact (if_pos (And.intro hcc (And.intro h48 (bi_n0.mp h63)))).symm
          · refine zIload d_X4_fewestFor_51 rfl (q := 53) rfl ?_
            refine zIf_eq d_X4_fewestFor_53 (tgt := 69) (q := 56) (by decide) rfl (fun _ => ?_) (fun h => absurd h (by decide))
            refine zIinc d_X4_fewestFor_69 rfl (zinc _) (by decide) rfl (q := 72) rfl ?_
            refine zGoto d_X4_fewestFor_72 (q := 13) (by decide) ?_
            refine zSub [0, 2, 3, 4, 5] rfl ?_
            refine ih (by omega) _ ?_
            rw [← hx]
            congr 1
            unfold zFewS
            first | exact (if_neg (fun q => hn32 q.1)).symm | exact (if_neg (fun q => h48 q.2.1)).symm | exact (if_neg (fun q => bi_0.mp h63 q.2.2)).symm | exact (if_pos (And.intro hcc (And.intro h48 (bi_n0.mp h63)))).symm
        · have hcc : s < 0 ∨ zbc (nI k) < zbc s := Or.inr (Int32.not_le.mp h32)
          refine zIconst d_X4_fewestFor_35 (v := 1) ic_1 (q := 36) rfl ?_
          refine zGoto d_X4_fewestFor_36 (q := 40) (by decide) ?_
          refine zIstore d_X4_fewestFor_40 (by decide) rfl (q := 42) rfl ?_
          refine zIload d_X4_fewestFor_42 rfl (q := 44) rfl ?_
          refine zIloadN d_X4_fewestFor_44 rfl rfl (q := 45) rfl ?_
          refine zIconst d_X4_fewestFor_45 (v := -1) ic_m1 (q := 46) rfl ?_
          refine zIxor d_X4_fewestFor_46 (q := 47) rfl ?_
          refine zIand d_X4_fewestFor_47 (q := 48) rfl ?_
          refine zIf_ne d_X4_fewestFor_48 (tgt := 69) (q := 51) (by decide) rfl (fun h48 => ?_) (fun h48 => ?_)
          · refine zIinc d_X4_fewestFor_69 rfl (zinc _) (by decide) rfl (q := 72) rfl ?_
            refine zGoto d_X4_fewestFor_72 (q := 13) (by decide) ?_
            refine zSub [0, 2, 3, 4, 5] rfl ?_
            refine ih (by omega) _ ?_
            rw [← hx]
            congr 1
            unfold zFewS
            first | exact (if_neg (fun q => hn32 q.1)).symm | exact (if_neg (fun q => h48 q.2.1)).symm | exact (if_neg (fun q => bi_0.mp h63 q.2.2)).symm | exact (if_pos (And.intro hcc (And.intro h48 (bi_n0.mp h63)))).symm
          · refine zIload d_X4_fewestFor_51 rfl (q := 53) rfl ?_
            refine zIf_eq d_X4_fewestFor_53 (tgt := 69) (q := 56) (by decide) rfl (fun h => absurd h (by decide)) (fun _ => ?_)
            refine zAloadN d_X4_fewestFor_56 rfl rfl (q := 57) rfl ?_
            refine zIload d_X4_fewestFor_57 rfl (q := 59) rfl ?_
            refine zIloadN d_X4_fewestFor_59 rfl rfl (q := 60) rfl ?_
            refine zCallVP d_X4_fewestFor_60 ml_X4_39 k_X4_serves ki_X4_serves ks_X4_serves (sp_X4_serves (d := d - 1) (by omega) hK) rfl rfl sh_16 (by decide) rfl (by decide) (Nat.le_of_ble_eq_true rfl) (by decide) (by omega) zns100 (q := 63) rfl ?_
            refine zIf_eq d_X4_fewestFor_63 (tgt := 69) (q := 66) (by decide) rfl (fun h63 => ?_) (fun h63 => ?_)
            · refine zIinc d_X4_fewestFor_69 rfl (zinc _) (by decide) rfl (q := 72) rfl ?_
              refine zGoto d_X4_fewestFor_72 (q := 13) (by decide) ?_
              refine zSub [0, 2, 3, 4, 5] rfl ?_
              refine ih (by omega) _ ?_
              rw [← hx]
              congr 1
              unfold zFewS
              first | exact (if_neg (fun q => hn32 q.1)).symm | exact (if_neg (fun q => h48 q.2.1)).symm | exact (if_neg (fun q => bi_0.mp h63 q.2.2)).symm | exact (if_pos (And.intro hcc (And.intro h48 (bi_n0.mp h63)))).symm
            · refine zIload d_X4_fewestFor_66 rfl (q := 68) rfl ?_
              refine zIstoreN d_X4_fewestFor_68 rfl (by decide) rfl (q := 69) rfl ?_
              refine zIinc d_X4_fewestFor_69 rfl (zinc _) (by decide) rfl (q := 72) rfl ?_
              refine zGoto d_X4_fewestFor_72 (q := 13) (by decide) ?_
              refine zSub [0, 1, 3, 4, 5] rfl ?_
              refine ih (by omega) _ ?_
              rw [← hx]
              congr 1
              unfold zFewS
              first | exact (if_neg (fun q => hn32 q.1)).symm | exact (if_neg (fun q => h48 q.2.1)).symm | exact (if_neg (fun q => bi_0.mp h63 q.2.2)).symm | exact (if_pos (And.intro hcc (And.intro h48 (bi_n0.mp h63)))).symm
  refine zSp_of (lv := [(0, .ref 16), (1, .int e)]) k_X4_fewestFor rfl (Nat.le_of_ble_eq_true rfl) ?_
  refine zAloadN d_X4_fewestFor_0 rfl rfl (q := 1) rfl ?_
  refine zGetR d_X4_fewestFor_1 ff_X4_16 sh_16 (by decide) r_16_0 (q := 4) rfl ?_
  refine zCallVP d_X4_fewestFor_4 ml_X4_29 k_X9_atHand ki_X9_atHand ks_X9_atHand (sp_X9_atHand (d := d - 1) (by omega) hK) rfl rfl sh_1 (by decide) rfl (by decide) (Nat.le_of_ble_eq_true rfl) (by decide) (by omega) zns100 (q := 7) rfl ?_
  rw [hA]
  refine zIstoreN d_X4_fewestFor_7 rfl (by decide) rfl (q := 8) rfl ?_
  refine zIconst d_X4_fewestFor_8 (v := -1) ic_m1 (q := 9) rfl ?_
  refine zIstoreN d_X4_fewestFor_9 rfl (by decide) rfl (q := 10) rfl ?_
  refine zIconst d_X4_fewestFor_10 (v := 0) ic_0 (q := 11) rfl ?_
  refine zIstore d_X4_fewestFor_11 (by decide) rfl (q := 13) rfl ?_
  refine zSub [0, 1, 2, 3, 4] rfl ?_
  exact loop 0 (Nat.zero_le _) (-1) hF.symm
theorem sp_X4_readHomes (hd : 4 ≤ d) (hK : zSky I ns nt nh) (hh : zShf h) (hne : 42 ≤ h) {n : Nat} (hn : I h 2 = nI n) (hn2 : n ≤ 60) : zSp g l d 100 m_X4_readHomes [.ref 16, .ref h] (zU I L fs) (zV (fun w => ∃ X Y, w = zU (zup (zup (zup I 17 X) 18 Y) 16 (zup (I 16) 3 (nI (zHomN I L ns nt nh h)))) L fs ∧ ∀ i, i < zHomN I L ns nt nh h → X i = zTold I L h (nI (2 * i)) ∧ Y i = zTold I L h (nI (2 * i + 1)))) := by
  have loop : ∀ k, k ≤ 12 → ∀ X Y, (∀ i, i < k → X i = zTold I L h (nI (2 * i)) ∧ Y i = zTold I L h (nI (2 * i + 1))) → zrun (zHomB I L ns nt nh h) 12 k = zHomN I L ns nt nh h → zA g l d m_X4_readHomes (zup (zup (zup I 17 X) 18 Y) 16 (zup (I 16) 3 (nI k))) L fs 7 [(2, .int (nI k)), (0, .ref 16), (1, .ref h)] (zV (fun w => ∃ X Y, w = zU (zup (zup (zup I 17 X) 18 Y) 16 (zup (I 16) 3 (nI (zHomN I L ns nt nh h)))) L fs ∧ ∀ i, i < zHomN I L ns nt nh h → X i = zTold I L h (nI (2 * i)) ∧ Y i = zTold I L h (nI (2 * i + 1)))) := by
    refine zloop 12 (fun k hk ih X Y hXY hx => ?_)
    have hK1 : zSky (zup (zup (zup I 17 X) 18 Y) 16 (zup (I 16) 3 (nI k))) ns nt nh := zSky_up (zSky_up (zSky_up hK (by decide)) (by decide)) (by decide)
    have eh : (zup (zup (zup I 17 X) 18 Y) 16 (zup (I 16) 3 (nI k))) h = I h := by rw [zup_ne (by omega), zup_ne (by omega), zup_ne (by omega)]
    have et : ∀ i, zTold (zup (zup (zup I 17 X) 18 Y) 16 (zup (I 16) 3 (nI k))) L h i = zTold I L h i := fun i => by unfold zTold; rw [eh]
    have e2 : (2 : Int32) * nI k = nI (2 * k) := by rw [← pk_mul]; rfl
    refine zIloadN d_X4_readHomes_7 rfl rfl (q := 8) rfl ?_
    refine zBipush d_X4_readHomes_8 (v := 12) bc_12 (q := 10) rfl ?_
    refine zIcmp_ge d_X4_readHomes_10 (tgt := 85) (q := 13) (by decide) rfl (fun h10 => ?_) (fun h10 => ?_)
    · have e := nle (b := 12) h10
      have ek : k = zHomN I L ns nt nh h := by rw [← hx, zrun_end e]
      refine zVret d_X4_readHomes_85 rfl rfl ?_
      exact ⟨rfl, X, Y, by rw [← ek], fun i hi => hXY i (by omega)⟩
    · have hlt := nnle (b := 12) h10
      refine zAloadN d_X4_readHomes_13 rfl rfl (q := 14) rfl ?_
      refine zIconst d_X4_readHomes_14 (v := 2) ic_2 (q := 15) rfl ?_
      refine zIloadN d_X4_readHomes_15 rfl rfl (q := 16) rfl ?_
      refine zImul d_X4_readHomes_16 (q := 17) rfl ?_
      refine zCallVP d_X4_readHomes_17 ml_X4_46 k_X8_told ki_X8_told ks_X8_told (sp_X8_told (d := d - 1) (by omega) hh (by rw [eh]; exact hn) hn2) rfl rfl hh.1 (by decide) rfl (Nat.lt_of_succ_lt hh.2.2.1) (Nat.le_of_ble_eq_true rfl) (by decide) (by omega) zns100 (q := 20) rfl ?_
      rw [et, e2]
      refine zIstoreN d_X4_readHomes_20 rfl (by decide) rfl (q := 21) rfl ?_
      refine zAloadN d_X4_readHomes_21 rfl rfl (q := 22) rfl ?_
      refine zIconst d_X4_readHomes_22 (v := 2) ic_2 (q := 23) rfl ?_
      refine zIloadN d_X4_readHomes_23 rfl rfl (q := 24) rfl ?_
      refine zImul d_X4_readHomes_24 (q := 25) rfl ?_
      refine zIconst d_X4_readHomes_25 (v := 1) ic_1 (q := 26) rfl ?_
      refine zIadd d_X4_readHomes_26 (q := 27) rfl ?_
      refine zCallVP d_X4_readHomes_27 ml_X4_46 k_X8_told ki_X8_told ks_X8_told (sp_X8_told (d := d - 1) (by omega) hh (by rw [eh]; exact hn) hn2) rfl rfl hh.1 (by decide) rfl (Nat.lt_of_succ_lt hh.2.2.1) (Nat.le_of_ble_eq_true rfl) (by decide) (by omega) zns100 (q := 30) rfl ?_
      rw [et, e2, nI_1]
      refine zIstore d_X4_readHomes_30 (by decide) rfl (q := 32) rfl ?_
      refine zAloadN d_X4_readHomes_32 rfl rfl (q := 33) rfl ?_
      refine zGetR d_X4_readHomes_33 ff_X4_16 sh_16 (by decide) r_16_0 (q := 36) rfl ?_
      refine zBipush d_X4_readHomes_36 (v := 8) bc_8 (q := 38) rfl ?_
      refine zIloadN d_X4_readHomes_38 rfl rfl (q := 39) rfl ?_
      refine zCallVP d_X4_readHomes_39 ml_X4_51 k_X9_has ki_X9_has ks_X9_has (sp_X9_has (d := d - 1) (by omega) hK1) rfl rfl sh_1 (by decide) rfl (by decide) (Nat.le_of_ble_eq_true rfl) (by decide) (by omega) zns100 (q := 42) rfl ?_
      refine zIf_eq d_X4_readHomes_42 (tgt := 56) (q := 45) (by decide) rfl (fun h42 => ?_) (fun h42 => ?_)
      · have hc : ¬ zHomB I L ns nt nh h k = true := by unfold zHomB; rw [decide_eq_true_eq]; exact fun q => bi_0.mp h42 q.1
        have ek : k = zHomN I L ns nt nh h := by rw [← hx, zrun_f hc]
        refine zVret d_X4_readHomes_56 rfl rfl ?_
        exact ⟨rfl, X, Y, by rw [← ek], fun i hi => hXY i (by omega)⟩
      · refine zIload d_X4_readHomes_45 rfl (q := 47) rfl ?_
        refine zIf_lt d_X4_readHomes_47 (tgt := 56) (q := 50) (by decide) rfl (fun h47 => ?_) (fun h47 => ?_)
        · have hc : ¬ zHomB I L ns nt nh h k = true := by unfold zHomB; rw [decide_eq_true_eq]; exact fun q => by have := q.2.1; grind
          have ek : k = zHomN I L ns nt nh h := by rw [← hx, zrun_f hc]
          refine zVret d_X4_readHomes_56 rfl rfl ?_
          exact ⟨rfl, X, Y, by rw [← ek], fun i hi => hXY i (by omega)⟩
        · refine zIload d_X4_readHomes_50 rfl (q := 52) rfl ?_
          refine zIconst d_X4_readHomes_52 (v := 1) ic_1 (q := 53) rfl ?_
          refine zIcmp_le d_X4_readHomes_53 (tgt := 57) (q := 56) (by decide) rfl (fun h53 => ?_) (fun h53 => ?_)
          · have hc : zHomB I L ns nt nh h k = true := by unfold zHomB; rw [decide_eq_true_eq]; exact ⟨bi_n0.mp h42, by grind, h53⟩
            rw [zrun_t hlt hc] at hx
            refine zAloadN d_X4_readHomes_57 rfl rfl (q := 58) rfl ?_
            refine zGetR d_X4_readHomes_58 ff_X4_9 sh_16 (by decide) r_16_1 (q := 61) rfl ?_
            refine zIloadN d_X4_readHomes_61 rfl rfl (q := 62) rfl ?_
            refine zIloadN d_X4_readHomes_62 rfl rfl (q := 63) rfl ?_
            refine zIast d_X4_readHomes_63 sh_17 (by decide) rfl (by omega) (q := 64) rfl ?_
            refine zAloadN d_X4_readHomes_64 rfl rfl (q := 65) rfl ?_
            refine zGetR d_X4_readHomes_65 ff_X4_13 sh_16 (by decide) r_16_2 (q := 68) rfl ?_
            refine zIloadN d_X4_readHomes_68 rfl rfl (q := 69) rfl ?_
            refine zIload d_X4_readHomes_69 rfl (q := 71) rfl ?_
            refine zIast d_X4_readHomes_71 sh_18 (by decide) rfl (by omega) (q := 72) rfl ?_
            refine zAloadN d_X4_readHomes_72 rfl rfl (q := 73) rfl ?_
            refine zIloadN d_X4_readHomes_73 rfl rfl (q := 74) rfl ?_
            refine zIconst d_X4_readHomes_74 (v := 1) ic_1 (q := 75) rfl ?_
            refine zIadd d_X4_readHomes_75 (q := 76) rfl ?_
            refine zPutI d_X4_readHomes_76 ff_X4_43 rfl rfl rfl sh_16 (by decide) (q := 79) rfl ?_
            refine zIinc d_X4_readHomes_79 rfl (zinc _) (by decide) rfl (q := 82) rfl ?_
            refine zGoto d_X4_readHomes_82 (q := 7) (by decide) ?_
            refine zSub [0, 3, 4] rfl ?_
            rw [nI_1]
            have key := ih hlt (zup X k (zTold I L h (nI (2 * k)))) (zup Y k (zTold I L h (nI (2 * k + 1)))) (fun i hi => by
              by_cases q : i = k
              · subst q; exact ⟨zup_eq, zup_eq⟩
              · rw [zup_ne q, zup_ne q]; exact hXY i (by omega)) hx
            refine zCastI ?_ key
            funext a
            by_cases a19 : a = 16
            · subst a19
              exact (zup_zup (f := I 16) (k := 3) (x := nI k) (y := nI (k + 1))).symm
            · by_cases a20 : a = 17
              · subst a20
                rfl
              · by_cases a21 : a = 18
                · subst a21
                  rfl
                · simp [zup, a19, a20, a21]
          · have hc : ¬ zHomB I L ns nt nh h k = true := by unfold zHomB; rw [decide_eq_true_eq]; exact fun q => h53 q.2.2
            have ek : k = zHomN I L ns nt nh h := by rw [← hx, zrun_f hc]
            refine zVret d_X4_readHomes_56 rfl rfl ?_
            exact ⟨rfl, X, Y, by rw [← ek], fun i hi => hXY i (by omega)⟩
  have e0 : zup (zup (zup I 17 (I 17)) 18 (I 18)) 16 (zup (I 16) 3 (nI 0)) = zup I 16 (zup (I 16) 3 0) := by rw [zup_self, zup_self]; rfl
  have h0 := loop 0 (Nat.zero_le _) (I 17) (I 18) (fun i hi => by omega) rfl
  rw [e0] at h0
  refine zSp_of (lv := [(0, .ref 16), (1, .ref h)]) k_X4_readHomes rfl (Nat.le_of_ble_eq_true rfl) ?_
  refine zAloadN d_X4_readHomes_0 rfl rfl (q := 1) rfl ?_
  refine zIconst d_X4_readHomes_1 (v := 0) ic_0 (q := 2) rfl ?_
  refine zPutI d_X4_readHomes_2 ff_X4_43 rfl rfl rfl sh_16 (by decide) (q := 5) rfl ?_
  refine zIconst d_X4_readHomes_5 (v := 0) ic_0 (q := 6) rfl ?_
  refine zIstoreN d_X4_readHomes_6 rfl (by decide) rfl (q := 7) rfl ?_
  refine zSub [0, 1, 2] rfl ?_
  exact h0
theorem sp_X4_allIsSo (hd : 2 ≤ d) (hK : zSky I ns nt nh) {n : Nat} (hn : I 16 3 = nI n) (h12 : n ≤ 12) {r : Int32} : zPure g l d m_X4_allIsSo [.ref 16, .int r] I L fs (.int (bi (zAllSo I nh (I 17) (I 18) n r))) := by
  have loop : ∀ k, k ≤ n → zrun (fun i => decide ((zSteer I nh r >>> (I 17 i &&& 31)) &&& 1 = I 18 i)) n k = zrun (fun i => decide ((zSteer I nh r >>> (I 17 i &&& 31)) &&& 1 = I 18 i)) n 0 → zA g l d m_X4_allIsSo I L fs 8 [(3, .int (nI k)), (2, .int (zSteer I nh r)), (0, .ref 16), (1, .int r)] (zP (.int (bi (zAllSo I nh (I 17) (I 18) n r))) (zU I L fs)) := by
    refine zloop n (fun k hk ih hx => ?_)
    refine zIloadN d_X4_allIsSo_8 rfl rfl (q := 9) rfl ?_
    refine zAloadN d_X4_allIsSo_9 rfl rfl (q := 10) rfl ?_
    refine zGetI d_X4_allIsSo_10 ff_X4_43 sh_16 (by decide) (q := 13) rfl ?_
    refine zIcmp_ge d_X4_allIsSo_13 (tgt := 43) (q := 16) (by decide) rfl (fun h13 => ?_) (fun h13 => ?_)
    · have ek := nle (hn ▸ h13)
      refine zIconst d_X4_allIsSo_43 (v := 1) ic_1 (q := 44) rfl ?_
      refine zIret d_X4_allIsSo_44 rfl rfl rfl ?_
      exact zPi (bi_t (by show zrun _ n 0 = n; rw [← hx, zrun_end ek]; omega)).symm
    · have hlt := nnle (hn ▸ h13)
      refine zIloadN d_X4_allIsSo_16 rfl rfl (q := 17) rfl ?_
      refine zAloadN d_X4_allIsSo_17 rfl rfl (q := 18) rfl ?_
      refine zGetR d_X4_allIsSo_18 ff_X4_9 sh_16 (by decide) r_16_1 (q := 21) rfl ?_
      refine zIloadN d_X4_allIsSo_21 rfl rfl (q := 22) rfl ?_
      refine zIald d_X4_allIsSo_22 sh_17 (by decide) rfl (by omega) (q := 23) rfl ?_
      refine zIshr d_X4_allIsSo_23 (q := 24) rfl ?_
      refine zIconst d_X4_allIsSo_24 (v := 1) ic_1 (q := 25) rfl ?_
      refine zIand d_X4_allIsSo_25 (q := 26) rfl ?_
      refine zAloadN d_X4_allIsSo_26 rfl rfl (q := 27) rfl ?_
      refine zGetR d_X4_allIsSo_27 ff_X4_13 sh_16 (by decide) r_16_2 (q := 30) rfl ?_
      refine zIloadN d_X4_allIsSo_30 rfl rfl (q := 31) rfl ?_
      refine zIald d_X4_allIsSo_31 sh_18 (by decide) rfl (by omega) (q := 32) rfl ?_
      refine zIcmp_eq d_X4_allIsSo_32 (tgt := 37) (q := 35) (by decide) rfl (fun h32 => ?_) (fun h32 => ?_)
      · refine zIinc d_X4_allIsSo_37 rfl (zinc _) (by decide) rfl (q := 40) rfl ?_
        refine zGoto d_X4_allIsSo_40 (q := 8) (by decide) ?_
        refine zSub [0, 1, 2, 3] rfl ?_
        exact ih hlt (by rw [← hx, zrun_t hlt (by rw [decide_eq_true_eq]; exact h32)])
      · refine zIconst d_X4_allIsSo_35 (v := 0) ic_0 (q := 36) rfl ?_
        refine zIret d_X4_allIsSo_36 rfl rfl rfl ?_
        have hr := zrun_f (p := fun i => decide ((zSteer I nh r >>> (I 17 i &&& 31)) &&& 1 = I 18 i)) (n := n) (k := k) (by rw [decide_eq_true_eq]; exact h32)
        exact zPi (bi_f (fun q => by rw [hr] at hx; have q' : zrun (fun i => decide ((zSteer I nh r >>> (I 17 i &&& 31)) &&& 1 = I 18 i)) n 0 = n := q; omega)).symm
  refine zSp_of (lv := [(0, .ref 16), (1, .int r)]) k_X4_allIsSo rfl (Nat.le_of_ble_eq_true rfl) ?_
  refine zAloadN d_X4_allIsSo_0 rfl rfl (q := 1) rfl ?_
  refine zIloadN d_X4_allIsSo_1 rfl rfl (q := 2) rfl ?_
  refine zCallVP d_X4_allIsSo_2 ml_X4_67 k_X4_steering ki_X4_steering ks_X4_steering (sp_X4_steering (d := d - 1) (by omega) hK) rfl rfl sh_16 (by decide) rfl (by decide) (Nat.le_of_ble_eq_true rfl) (by decide) (by omega) zns100 (q := 5) rfl ?_
  refine zIstoreN d_X4_allIsSo_5 rfl (by decide) rfl (q := 6) rfl ?_
  refine zIconst d_X4_allIsSo_6 (v := 0) ic_0 (q := 7) rfl ?_
  refine zIstoreN d_X4_allIsSo_7 rfl (by decide) rfl (q := 8) rfl ?_
  refine zSub [0, 1, 2, 3] rfl ?_
  exact loop 0 (Nat.zero_le _) rfl
def zWrU (I : Nat → Nat → Int32) (s : Int32 × Int32) : Nat → Nat → Int32 := zup I 16 (zup (zup (I 16) 4 s.1) 5 s.2)
theorem sp_X4_findWrong (hd : 5 ≤ d) (hK : zSky I ns nt nh) {n : Nat} (hn : I 16 3 = nI n) (h12 : n ≤ 12) : zSp g l d 100 m_X4_findWrong [.ref 16] (zU I L fs) (zV (fun w => w = zU (zWrU I (zWr I ns nh (I 17) (I 18) n)) L fs)) := by
  obtain ⟨U, hU1, hU⟩ := zbits_lt (f := I 7) (n := ns) (by have := hK.2.1; omega)
  have hU2 := zp10 hK.2.1
  have hF : zWr I ns nh (I 17) (I 18) n = zfor (zWrS I nh (I 17) (I 18) n (nI U)) (U + 1) 0 (0, 0) := by unfold zWr; rw [hU, zcl_n (by omega)]
  have hAll : ∀ (s : Int32 × Int32) (r : Int32), zPure g l (d - 1) m_X4_allIsSo [.ref 16, .int r] (zWrU I s) L fs (.int (bi (zAllSo I nh (I 17) (I 18) n r))) := fun s r =>
    sp_X4_allIsSo (g := g) (l := l) (L := L) (fs := fs) (d := d - 1) (by omega) (zSky_up (a := 16) (f := zup (zup (I 16) 4 s.1) 5 s.2) hK (by decide)) (n := n) hn h12 (r := r)
  have loop : ∀ k, k ≤ U + 1 → ∀ s, zfor (zWrS I nh (I 17) (I 18) n (nI U)) (U + 1) k s = zWr I ns nh (I 17) (I 18) n → zA g l d m_X4_findWrong (zWrU I s) L fs 21 [(2, .int (nI k)), (1, .int (nI U)), (0, .ref 16)] (zV (fun w => w = zU (zWrU I (zWr I ns nh (I 17) (I 18) n)) L fs)) := by
    refine zloop (U + 1) (fun k hk ih s hx => ?_)
    refine zIloadN d_X4_findWrong_21 rfl rfl (q := 22) rfl ?_
    refine zIloadN d_X4_findWrong_22 rfl rfl (q := 23) rfl ?_
    refine zIcmp_gt d_X4_findWrong_23 (tgt := 91) (q := 26) (by decide) rfl (fun h23 => ?_) (fun h23 => ?_)
    · have ek := nlt h23
      rw [zfor_end (by omega)] at hx
      refine zVret d_X4_findWrong_91 rfl rfl ?_
      exact ⟨rfl, by rw [hx]⟩
    · have hlt := nnlt h23
      rw [zfor_step (by omega)] at hx
      refine zIloadN d_X4_findWrong_26 rfl rfl (q := 27) rfl ?_
      refine zIloadN d_X4_findWrong_27 rfl rfl (q := 28) rfl ?_
      refine zIconst d_X4_findWrong_28 (v := -1) ic_m1 (q := 29) rfl ?_
      refine zIxor d_X4_findWrong_29 (q := 30) rfl ?_
      refine zIand d_X4_findWrong_30 (q := 31) rfl ?_
      refine zIf_ne d_X4_findWrong_31 (tgt := 85) (q := 34) (by decide) rfl (fun h31 => ?_) (fun h31 => ?_)
      · refine zIinc d_X4_findWrong_85 rfl (zinc _) (by decide) rfl (q := 88) rfl ?_
        refine zGoto d_X4_findWrong_88 (q := 21) (by decide) ?_
        refine zSub [0, 1, 2] rfl ?_
        first
        | exact ih (by omega) s (by rw [← hx]; unfold zWrS; first | rw [if_neg (fun q => h31 q.1)] | rw [if_neg (fun q => bi_0.mp h43 q.2)])
        | (have hc : (nI k &&& (nI U ^^^ (-1)) = 0) ∧ zAllSo I nh (I 17) (I 18) n (nI U &&& (nI k ^^^ (-1))) := ⟨h31, bi_n0.mp h43⟩
           have key := ih (by omega) (s.1 + 1, if s.1 = 0 ∨ zbc (nI k) < zbc s.2 then nI k else s.2) (by rw [← hx]; unfold zWrS; rw [if_pos hc])
           have h53' : s.1 = 0 := h53
           rw [if_pos (Or.inl h53')] at key
           refine zCastI ?_ key
           unfold zWrU
           rw [zup_zup, zup_zup, zup_eq, zup_eq, zup_zup, zup_3 (show (4 : Nat) ≠ 5 by decide)]
           rfl)
        | (have hc : (nI k &&& (nI U ^^^ (-1)) = 0) ∧ zAllSo I nh (I 17) (I 18) n (nI U &&& (nI k ^^^ (-1))) := ⟨h31, bi_n0.mp h43⟩
           have key := ih (by omega) (s.1 + 1, if s.1 = 0 ∨ zbc (nI k) < zbc s.2 then nI k else s.2) (by rw [← hx]; unfold zWrS; rw [if_pos hc])
           have h53' : ¬ s.1 = 0 := h53
           have h67' : zbc s.2 ≤ zbc (nI k) := h67
           rw [if_neg (by rintro (q | q); exact h53' q; grind)] at key
           refine zCastI ?_ key
           unfold zWrU
           rw [zup_zup, zup_eq, zup_3 (show (4 : Nat) ≠ 5 by decide)]
           rfl)
        | (have hc : (nI k &&& (nI U ^^^ (-1)) = 0) ∧ zAllSo I nh (I 17) (I 18) n (nI U &&& (nI k ^^^ (-1))) := ⟨h31, bi_n0.mp h43⟩
           have key := ih (by omega) (s.1 + 1, if s.1 = 0 ∨ zbc (nI k) < zbc s.2 then nI k else s.2) (by rw [← hx]; unfold zWrS; rw [if_pos hc])
           have h67' : ¬ zbc s.2 ≤ zbc (nI k) := h67
           rw [if_pos (Or.inr (by grind))] at key
           refine zCastI ?_ key
           unfold zWrU
           rw [zup_zup, zup_zup, zup_eq, zup_eq, zup_zup, zup_3 (show (4 : Nat) ≠ 5 by decide)]
           rfl)
      · refine zAloadN d_X4_findWrong_34 rfl rfl (q := 35) rfl ?_
        refine zIloadN d_X4_findWrong_35 rfl rfl (q := 36) rfl ?_
        refine zIloadN d_X4_findWrong_36 rfl rfl (q := 37) rfl ?_
        refine zIconst d_X4_findWrong_37 (v := -1) ic_m1 (q := 38) rfl ?_
        refine zIxor d_X4_findWrong_38 (q := 39) rfl ?_
        refine zIand d_X4_findWrong_39 (q := 40) rfl ?_
        refine zCallVP d_X4_findWrong_40 ml_X4_63 k_X4_allIsSo ki_X4_allIsSo ks_X4_allIsSo (hAll _ _) rfl rfl sh_16 (by decide) rfl (by decide) (Nat.le_of_ble_eq_true rfl) (by decide) (by omega) zns100 (q := 43) rfl ?_
        refine zIf_ne d_X4_findWrong_43 (tgt := 49) (q := 46) (by decide) rfl (fun h43 => ?_) (fun h43 => ?_)
        · refine zAloadN d_X4_findWrong_49 rfl rfl (q := 50) rfl ?_
          refine zGetI d_X4_findWrong_50 ff_X4_57 sh_16 (by decide) (q := 53) rfl ?_
          refine zIf_eq d_X4_findWrong_53 (tgt := 70) (q := 56) (by decide) rfl (fun h53 => ?_) (fun h53 => ?_)
          · refine zAloadN d_X4_findWrong_70 rfl rfl (q := 71) rfl ?_
            refine zIloadN d_X4_findWrong_71 rfl rfl (q := 72) rfl ?_
            refine zPutI d_X4_findWrong_72 ff_X4_60 rfl rfl rfl sh_16 (by decide) (q := 75) rfl ?_
            refine zAloadN d_X4_findWrong_75 rfl rfl (q := 76) rfl ?_
            refine zDup d_X4_findWrong_76 rfl (q := 77) rfl ?_
            refine zGetI d_X4_findWrong_77 ff_X4_57 sh_16 (by decide) (q := 80) rfl ?_
            refine zIconst d_X4_findWrong_80 (v := 1) ic_1 (q := 81) rfl ?_
            refine zIadd d_X4_findWrong_81 (q := 82) rfl ?_
            refine zPutI d_X4_findWrong_82 ff_X4_57 rfl rfl rfl sh_16 (by decide) (q := 85) rfl ?_
            refine zIinc d_X4_findWrong_85 rfl (zinc _) (by decide) rfl (q := 88) rfl ?_
            refine zGoto d_X4_findWrong_88 (q := 21) (by decide) ?_
            refine zSub [0, 1, 2] rfl ?_
            first
            | exact ih (by omega) s (by rw [← hx]; unfold zWrS; first | rw [if_neg (fun q => h31 q.1)] | rw [if_neg (fun q => bi_0.mp h43 q.2)])
            | (have hc : (nI k &&& (nI U ^^^ (-1)) = 0) ∧ zAllSo I nh (I 17) (I 18) n (nI U &&& (nI k ^^^ (-1))) := ⟨h31, bi_n0.mp h43⟩
               have key := ih (by omega) (s.1 + 1, if s.1 = 0 ∨ zbc (nI k) < zbc s.2 then nI k else s.2) (by rw [← hx]; unfold zWrS; rw [if_pos hc])
               have h53' : s.1 = 0 := h53
               rw [if_pos (Or.inl h53')] at key
               refine zCastI ?_ key
               unfold zWrU
               rw [zup_zup, zup_zup, zup_eq, zup_eq, zup_zup, zup_3 (show (4 : Nat) ≠ 5 by decide)]
               rfl)
            | (have hc : (nI k &&& (nI U ^^^ (-1)) = 0) ∧ zAllSo I nh (I 17) (I 18) n (nI U &&& (nI k ^^^ (-1))) := ⟨h31, bi_n0.mp h43⟩
               have key := ih (by omega) (s.1 + 1, if s.1 = 0 ∨ zbc (nI k) < zbc s.2 then nI k else s.2) (by rw [← hx]; unfold zWrS; rw [if_pos hc])
               have h53' : ¬ s.1 = 0 := h53
               have h67' : zbc s.2 ≤ zbc (nI k) := h67
               rw [if_neg (by rintro (q | q); exact h53' q; grind)] at key
               refine zCastI ?_ key
               unfold zWrU
               rw [zup_zup, zup_eq, zup_3 (show (4 : Nat) ≠ 5 by decide)]
               rfl)
            | (have hc : (nI k &&& (nI U ^^^ (-1)) = 0) ∧ zAllSo I nh (I 17) (I 18) n (nI U &&& (nI k ^^^ (-1))) := ⟨h31, bi_n0.mp h43⟩
               have key := ih (by omega) (s.1 + 1, if s.1 = 0 ∨ zbc (nI k) < zbc s.2 then nI k else s.2) (by rw [← hx]; unfold zWrS; rw [if_pos hc])
               have h67' : ¬ zbc s.2 ≤ zbc (nI k) := h67
               rw [if_pos (Or.inr (by grind))] at key
               refine zCastI ?_ key
               unfold zWrU
               rw [zup_zup, zup_zup, zup_eq, zup_eq, zup_zup, zup_3 (show (4 : Nat) ≠ 5 by decide)]
               rfl)
          · refine zIloadN d_X4_findWrong_56 rfl rfl (q := 57) rfl ?_
            refine zCallSP d_X4_findWrong_57 ml_X4_33 k_J6_bitCount kt_J6_bitCount (sp_J6_bitCount (d := d - 1) (by omega) ) rfl rfl (Nat.le_of_ble_eq_true rfl) (by decide) (by omega) zns100 (q := 60) rfl ?_
            refine zAloadN d_X4_findWrong_60 rfl rfl (q := 61) rfl ?_
            refine zGetI d_X4_findWrong_61 ff_X4_60 sh_16 (by decide) (q := 64) rfl ?_
            refine zCallSP d_X4_findWrong_64 ml_X4_33 k_J6_bitCount kt_J6_bitCount (sp_J6_bitCount (d := d - 1) (by omega) ) rfl rfl (Nat.le_of_ble_eq_true rfl) (by decide) (by omega) zns100 (q := 67) rfl ?_
            refine zIcmp_ge d_X4_findWrong_67 (tgt := 75) (q := 70) (by decide) rfl (fun h67 => ?_) (fun h67 => ?_)
            · refine zAloadN d_X4_findWrong_75 rfl rfl (q := 76) rfl ?_
              refine zDup d_X4_findWrong_76 rfl (q := 77) rfl ?_
              refine zGetI d_X4_findWrong_77 ff_X4_57 sh_16 (by decide) (q := 80) rfl ?_
              refine zIconst d_X4_findWrong_80 (v := 1) ic_1 (q := 81) rfl ?_
              refine zIadd d_X4_findWrong_81 (q := 82) rfl ?_
              refine zPutI d_X4_findWrong_82 ff_X4_57 rfl rfl rfl sh_16 (by decide) (q := 85) rfl ?_
              refine zIinc d_X4_findWrong_85 rfl (zinc _) (by decide) rfl (q := 88) rfl ?_
              refine zGoto d_X4_findWrong_88 (q := 21) (by decide) ?_
              refine zSub [0, 1, 2] rfl ?_
              first
              | exact ih (by omega) s (by rw [← hx]; unfold zWrS; first | rw [if_neg (fun q => h31 q.1)] | rw [if_neg (fun q => bi_0.mp h43 q.2)])
              | (have hc : (nI k &&& (nI U ^^^ (-1)) = 0) ∧ zAllSo I nh (I 17) (I 18) n (nI U &&& (nI k ^^^ (-1))) := ⟨h31, bi_n0.mp h43⟩
                 have key := ih (by omega) (s.1 + 1, if s.1 = 0 ∨ zbc (nI k) < zbc s.2 then nI k else s.2) (by rw [← hx]; unfold zWrS; rw [if_pos hc])
                 have h53' : s.1 = 0 := h53
                 rw [if_pos (Or.inl h53')] at key
                 refine zCastI ?_ key
                 unfold zWrU
                 rw [zup_zup, zup_zup, zup_eq, zup_eq, zup_zup, zup_3 (show (4 : Nat) ≠ 5 by decide)]
                 rfl)
              | (have hc : (nI k &&& (nI U ^^^ (-1)) = 0) ∧ zAllSo I nh (I 17) (I 18) n (nI U &&& (nI k ^^^ (-1))) := ⟨h31, bi_n0.mp h43⟩
                 have key := ih (by omega) (s.1 + 1, if s.1 = 0 ∨ zbc (nI k) < zbc s.2 then nI k else s.2) (by rw [← hx]; unfold zWrS; rw [if_pos hc])
                 have h53' : ¬ s.1 = 0 := h53
                 have h67' : zbc s.2 ≤ zbc (nI k) := h67
                 rw [if_neg (by rintro (q | q); exact h53' q; grind)] at key
                 refine zCastI ?_ key
                 unfold zWrU
                 rw [zup_zup, zup_eq, zup_3 (show (4 : Nat) ≠ 5 by decide)]
                 rfl)
              | (have hc : (nI k &&& (nI U ^^^ (-1)) = 0) ∧ zAllSo I nh (I 17) (I 18) n (nI U &&& (nI k ^^^ (-1))) := ⟨h31, bi_n0.mp h43⟩
                 have key := ih (by omega) (s.1 + 1, if s.1 = 0 ∨ zbc (nI k) < zbc s.2 then nI k else s.2) (by rw [← hx]; unfold zWrS; rw [if_pos hc])
                 have h67' : ¬ zbc s.2 ≤ zbc (nI k) := h67
                 rw [if_pos (Or.inr (by grind))] at key
                 refine zCastI ?_ key
                 unfold zWrU
                 rw [zup_zup, zup_zup, zup_eq, zup_eq, zup_zup, zup_3 (show (4 : Nat) ≠ 5 by decide)]
                 rfl)
            · refine zAloadN d_X4_findWrong_70 rfl rfl (q := 71) rfl ?_
              refine zIloadN d_X4_findWrong_71 rfl rfl (q := 72) rfl ?_
              refine zPutI d_X4_findWrong_72 ff_X4_60 rfl rfl rfl sh_16 (by decide) (q := 75) rfl ?_
              refine zAloadN d_X4_findWrong_75 rfl rfl (q := 76) rfl ?_
              refine zDup d_X4_findWrong_76 rfl (q := 77) rfl ?_
              refine zGetI d_X4_findWrong_77 ff_X4_57 sh_16 (by decide) (q := 80) rfl ?_
              refine zIconst d_X4_findWrong_80 (v := 1) ic_1 (q := 81) rfl ?_
              refine zIadd d_X4_findWrong_81 (q := 82) rfl ?_
              refine zPutI d_X4_findWrong_82 ff_X4_57 rfl rfl rfl sh_16 (by decide) (q := 85) rfl ?_
              refine zIinc d_X4_findWrong_85 rfl (zinc _) (by decide) rfl (q := 88) rfl ?_
              refine zGoto d_X4_findWrong_88 (q := 21) (by decide) ?_
              refine zSub [0, 1, 2] rfl ?_
              first
              | exact ih (by omega) s (by rw [← hx]; unfold zWrS; first | rw [if_neg (fun q => h31 q.1)] | rw [if_neg (fun q => bi_0.mp h43 q.2)])
              | (have hc : (nI k &&& (nI U ^^^ (-1)) = 0) ∧ zAllSo I nh (I 17) (I 18) n (nI U &&& (nI k ^^^ (-1))) := ⟨h31, bi_n0.mp h43⟩
                 have key := ih (by omega) (s.1 + 1, if s.1 = 0 ∨ zbc (nI k) < zbc s.2 then nI k else s.2) (by rw [← hx]; unfold zWrS; rw [if_pos hc])
                 have h53' : s.1 = 0 := h53
                 rw [if_pos (Or.inl h53')] at key
                 refine zCastI ?_ key
                 unfold zWrU
                 rw [zup_zup, zup_zup, zup_eq, zup_eq, zup_zup, zup_3 (show (4 : Nat) ≠ 5 by decide)]
                 rfl)
              | (have hc : (nI k &&& (nI U ^^^ (-1)) = 0) ∧ zAllSo I nh (I 17) (I 18) n (nI U &&& (nI k ^^^ (-1))) := ⟨h31, bi_n0.mp h43⟩
                 have key := ih (by omega) (s.1 + 1, if s.1 = 0 ∨ zbc (nI k) < zbc s.2 then nI k else s.2) (by rw [← hx]; unfold zWrS; rw [if_pos hc])
                 have h53' : ¬ s.1 = 0 := h53
                 have h67' : zbc s.2 ≤ zbc (nI k) := h67
                 rw [if_neg (by rintro (q | q); exact h53' q; grind)] at key
                 refine zCastI ?_ key
                 unfold zWrU
                 rw [zup_zup, zup_eq, zup_3 (show (4 : Nat) ≠ 5 by decide)]
                 rfl)
              | (have hc : (nI k &&& (nI U ^^^ (-1)) = 0) ∧ zAllSo I nh (I 17) (I 18) n (nI U &&& (nI k ^^^ (-1))) := ⟨h31, bi_n0.mp h43⟩
                 have key := ih (by omega) (s.1 + 1, if s.1 = 0 ∨ zbc (nI k) < zbc s.2 then nI k else s.2) (by rw [← hx]; unfold zWrS; rw [if_pos hc])
                 have h67' : ¬ zbc s.2 ≤ zbc (nI k) := h67
                 rw [if_pos (Or.inr (by grind))] at key
                 refine zCastI ?_ key
                 unfold zWrU
                 rw [zup_zup, zup_zup, zup_eq, zup_eq, zup_zup, zup_3 (show (4 : Nat) ≠ 5 by decide)]
                 rfl)
        · refine zGoto d_X4_findWrong_46 (q := 85) (by decide) ?_
          refine zIinc d_X4_findWrong_85 rfl (zinc _) (by decide) rfl (q := 88) rfl ?_
          refine zGoto d_X4_findWrong_88 (q := 21) (by decide) ?_
          refine zSub [0, 1, 2] rfl ?_
          first
          | exact ih (by omega) s (by rw [← hx]; unfold zWrS; first | rw [if_neg (fun q => h31 q.1)] | rw [if_neg (fun q => bi_0.mp h43 q.2)])
          | (have hc : (nI k &&& (nI U ^^^ (-1)) = 0) ∧ zAllSo I nh (I 17) (I 18) n (nI U &&& (nI k ^^^ (-1))) := ⟨h31, bi_n0.mp h43⟩
             have key := ih (by omega) (s.1 + 1, if s.1 = 0 ∨ zbc (nI k) < zbc s.2 then nI k else s.2) (by rw [← hx]; unfold zWrS; rw [if_pos hc])
             have h53' : s.1 = 0 := h53
             rw [if_pos (Or.inl h53')] at key
             refine zCastI ?_ key
             unfold zWrU
             rw [zup_zup, zup_zup, zup_eq, zup_eq, zup_zup, zup_3 (show (4 : Nat) ≠ 5 by decide)]
             rfl)
          | (have hc : (nI k &&& (nI U ^^^ (-1)) = 0) ∧ zAllSo I nh (I 17) (I 18) n (nI U &&& (nI k ^^^ (-1))) := ⟨h31, bi_n0.mp h43⟩
             have key := ih (by omega) (s.1 + 1, if s.1 = 0 ∨ zbc (nI k) < zbc s.2 then nI k else s.2) (by rw [← hx]; unfold zWrS; rw [if_pos hc])
             have h53' : ¬ s.1 = 0 := h53
             have h67' : zbc s.2 ≤ zbc (nI k) := h67
             rw [if_neg (by rintro (q | q); exact h53' q; grind)] at key
             refine zCastI ?_ key
             unfold zWrU
             rw [zup_zup, zup_eq, zup_3 (show (4 : Nat) ≠ 5 by decide)]
             rfl)
          | (have hc : (nI k &&& (nI U ^^^ (-1)) = 0) ∧ zAllSo I nh (I 17) (I 18) n (nI U &&& (nI k ^^^ (-1))) := ⟨h31, bi_n0.mp h43⟩
             have key := ih (by omega) (s.1 + 1, if s.1 = 0 ∨ zbc (nI k) < zbc s.2 then nI k else s.2) (by rw [← hx]; unfold zWrS; rw [if_pos hc])
             have h67' : ¬ zbc s.2 ≤ zbc (nI k) := h67
             rw [if_pos (Or.inr (by grind))] at key
             refine zCastI ?_ key
             unfold zWrU
             rw [zup_zup, zup_zup, zup_eq, zup_eq, zup_zup, zup_3 (show (4 : Nat) ≠ 5 by decide)]
             rfl)
  have h0 := loop 0 (Nat.zero_le _) (0, 0) hF.symm
  have e0 : zWrU I (0, 0) = zup (zup I 16 (zup (I 16) 4 0)) 16 (zup ((zup I 16 (zup (I 16) 4 0)) 16) 5 0) := by unfold zWrU; rw [zup_zup, zup_eq]
  rw [e0] at h0
  refine zSp_of (lv := [(0, .ref 16)]) k_X4_findWrong rfl (Nat.le_of_ble_eq_true rfl) ?_
  refine zAloadN d_X4_findWrong_0 rfl rfl (q := 1) rfl ?_
  refine zGetR d_X4_findWrong_1 ff_X4_16 sh_16 (by decide) r_16_0 (q := 4) rfl ?_
  refine zIconst d_X4_findWrong_4 (v := 4) ic_4 (q := 5) rfl ?_
  refine zCallVP d_X4_findWrong_5 ml_X4_54 k_X9_bits ki_X9_bits ks_X9_bits (sp_X9_bits4 (d := d - 1) (by omega) hK) rfl rfl sh_1 (by decide) rfl (by decide) (Nat.le_of_ble_eq_true rfl) (by decide) (by omega) zns100 (q := 8) rfl ?_
  rw [hU]
  refine zIstoreN d_X4_findWrong_8 rfl (by decide) rfl (q := 9) rfl ?_
  refine zAloadN d_X4_findWrong_9 rfl rfl (q := 10) rfl ?_
  refine zIconst d_X4_findWrong_10 (v := 0) ic_0 (q := 11) rfl ?_
  refine zPutI d_X4_findWrong_11 ff_X4_57 rfl rfl rfl sh_16 (by decide) (q := 14) rfl ?_
  refine zAloadN d_X4_findWrong_14 rfl rfl (q := 15) rfl ?_
  refine zIconst d_X4_findWrong_15 (v := 0) ic_0 (q := 16) rfl ?_
  refine zPutI d_X4_findWrong_16 ff_X4_60 rfl rfl rfl sh_16 (by decide) (q := 19) rfl ?_
  refine zIconst d_X4_findWrong_19 (v := 0) ic_0 (q := 20) rfl ?_
  refine zIstoreN d_X4_findWrong_20 rfl (by decide) rfl (q := 21) rfl ?_
  refine zSub [0, 1, 2] rfl ?_
  exact h0
end S17
end
section
theorem d_X4_fewestBehind_0 : decode (zmc m_X4_fewestBehind) 0 = .ok (.iload_n 2, 1) := by decide +kernel
theorem d_X4_fewestBehind_1 : decode (zmc m_X4_fewestBehind) 1 = .ok (.ifCond .gt 12, 3) := by decide +kernel
theorem d_X4_fewestBehind_4 : decode (zmc m_X4_fewestBehind) 4 = .ok (.aload_n 0, 1) := by decide +kernel
theorem d_X4_fewestBehind_5 : decode (zmc m_X4_fewestBehind) 5 = .ok (.iload_n 1, 1) := by decide +kernel
theorem d_X4_fewestBehind_6 : decode (zmc m_X4_fewestBehind) 6 = .ok (.invokevirtual 67, 3) := by decide +kernel
theorem d_X4_fewestBehind_9 : decode (zmc m_X4_fewestBehind) 9 = .ok (.invokestatic 33, 3) := by decide +kernel
theorem d_X4_fewestBehind_12 : decode (zmc m_X4_fewestBehind) 12 = .ok (.ireturn, 1) := by decide +kernel
theorem d_X4_fewestBehind_13 : decode (zmc m_X4_fewestBehind) 13 = .ok (.aload_n 0, 1) := by decide +kernel
theorem d_X4_fewestBehind_14 : decode (zmc m_X4_fewestBehind) 14 = .ok (.iload_n 1, 1) := by decide +kernel
theorem d_X4_fewestBehind_15 : decode (zmc m_X4_fewestBehind) 15 = .ok (.iload_n 2, 1) := by decide +kernel
theorem d_X4_fewestBehind_16 : decode (zmc m_X4_fewestBehind) 16 = .ok (.iconst 1, 1) := by decide +kernel
theorem d_X4_fewestBehind_17 : decode (zmc m_X4_fewestBehind) 17 = .ok (.isub, 1) := by decide +kernel
theorem d_X4_fewestBehind_18 : decode (zmc m_X4_fewestBehind) 18 = .ok (.iload_n 3, 1) := by decide +kernel
theorem d_X4_fewestBehind_19 : decode (zmc m_X4_fewestBehind) 19 = .ok (.iload 4, 2) := by decide +kernel
theorem d_X4_fewestBehind_21 : decode (zmc m_X4_fewestBehind) 21 = .ok (.invokevirtual 94, 3) := by decide +kernel
theorem d_X4_fewestBehind_24 : decode (zmc m_X4_fewestBehind) 24 = .ok (.istore 5, 2) := by decide +kernel
theorem d_X4_fewestBehind_26 : decode (zmc m_X4_fewestBehind) 26 = .ok (.iconst 0, 1) := by decide +kernel
theorem d_X4_fewestBehind_27 : decode (zmc m_X4_fewestBehind) 27 = .ok (.istore 6, 2) := by decide +kernel
theorem d_X4_fewestBehind_29 : decode (zmc m_X4_fewestBehind) 29 = .ok (.iload 6, 2) := by decide +kernel
theorem d_X4_fewestBehind_31 : decode (zmc m_X4_fewestBehind) 31 = .ok (.aload_n 0, 1) := by decide +kernel
theorem d_X4_fewestBehind_32 : decode (zmc m_X4_fewestBehind) 32 = .ok (.getfield 16, 3) := by decide +kernel
theorem d_X4_fewestBehind_35 : decode (zmc m_X4_fewestBehind) 35 = .ok (.getfield 85, 3) := by decide +kernel
theorem d_X4_fewestBehind_38 : decode (zmc m_X4_fewestBehind) 38 = .ok (.if_icmp .ge 58, 3) := by decide +kernel
theorem d_X4_fewestBehind_41 : decode (zmc m_X4_fewestBehind) 41 = .ok (.iload 5, 2) := by decide +kernel
theorem d_X4_fewestBehind_43 : decode (zmc m_X4_fewestBehind) 43 = .ok (.iload_n 3, 1) := by decide +kernel
theorem d_X4_fewestBehind_44 : decode (zmc m_X4_fewestBehind) 44 = .ok (.if_icmp .le 52, 3) := by decide +kernel
theorem d_X4_fewestBehind_47 : decode (zmc m_X4_fewestBehind) 47 = .ok (.iload_n 1, 1) := by decide +kernel
theorem d_X4_fewestBehind_48 : decode (zmc m_X4_fewestBehind) 48 = .ok (.iconst 1, 1) := by decide +kernel
theorem d_X4_fewestBehind_49 : decode (zmc m_X4_fewestBehind) 49 = .ok (.iload 6, 2) := by decide +kernel
theorem d_X4_fewestBehind_51 : decode (zmc m_X4_fewestBehind) 51 = .ok (.ishl, 1) := by decide +kernel
theorem d_X4_fewestBehind_52 : decode (zmc m_X4_fewestBehind) 52 = .ok (.iand, 1) := by decide +kernel
theorem d_X4_fewestBehind_53 : decode (zmc m_X4_fewestBehind) 53 = .ok (.ifCond .eq 37, 3) := by decide +kernel
theorem d_X4_fewestBehind_56 : decode (zmc m_X4_fewestBehind) 56 = .ok (.aload_n 0, 1) := by decide +kernel
theorem d_X4_fewestBehind_57 : decode (zmc m_X4_fewestBehind) 57 = .ok (.iload_n 1, 1) := by decide +kernel
theorem d_X4_fewestBehind_58 : decode (zmc m_X4_fewestBehind) 58 = .ok (.iconst 1, 1) := by decide +kernel
theorem d_X4_fewestBehind_59 : decode (zmc m_X4_fewestBehind) 59 = .ok (.iload 6, 2) := by decide +kernel
theorem d_X4_fewestBehind_61 : decode (zmc m_X4_fewestBehind) 61 = .ok (.ishl, 1) := by decide +kernel
theorem d_X4_fewestBehind_62 : decode (zmc m_X4_fewestBehind) 62 = .ok (.iconst (-1), 1) := by decide +kernel
theorem d_X4_fewestBehind_63 : decode (zmc m_X4_fewestBehind) 63 = .ok (.ixor, 1) := by decide +kernel
theorem d_X4_fewestBehind_64 : decode (zmc m_X4_fewestBehind) 64 = .ok (.iand, 1) := by decide +kernel
theorem d_X4_fewestBehind_65 : decode (zmc m_X4_fewestBehind) 65 = .ok (.iload_n 2, 1) := by decide +kernel
theorem d_X4_fewestBehind_66 : decode (zmc m_X4_fewestBehind) 66 = .ok (.iconst 1, 1) := by decide +kernel
theorem d_X4_fewestBehind_67 : decode (zmc m_X4_fewestBehind) 67 = .ok (.isub, 1) := by decide +kernel
theorem d_X4_fewestBehind_68 : decode (zmc m_X4_fewestBehind) 68 = .ok (.iload_n 3, 1) := by decide +kernel
theorem d_X4_fewestBehind_69 : decode (zmc m_X4_fewestBehind) 69 = .ok (.iload 4, 2) := by decide +kernel
theorem d_X4_fewestBehind_71 : decode (zmc m_X4_fewestBehind) 71 = .ok (.iload 5, 2) := by decide +kernel
theorem d_X4_fewestBehind_73 : decode (zmc m_X4_fewestBehind) 73 = .ok (.invokestatic 97, 3) := by decide +kernel
theorem d_X4_fewestBehind_76 : decode (zmc m_X4_fewestBehind) 76 = .ok (.invokevirtual 94, 3) := by decide +kernel
theorem d_X4_fewestBehind_79 : decode (zmc m_X4_fewestBehind) 79 = .ok (.istore 7, 2) := by decide +kernel
theorem d_X4_fewestBehind_81 : decode (zmc m_X4_fewestBehind) 81 = .ok (.iload 5, 2) := by decide +kernel
theorem d_X4_fewestBehind_83 : decode (zmc m_X4_fewestBehind) 83 = .ok (.iload 7, 2) := by decide +kernel
theorem d_X4_fewestBehind_85 : decode (zmc m_X4_fewestBehind) 85 = .ok (.invokestatic 97, 3) := by decide +kernel
theorem d_X4_fewestBehind_88 : decode (zmc m_X4_fewestBehind) 88 = .ok (.istore 5, 2) := by decide +kernel
theorem d_X4_fewestBehind_90 : decode (zmc m_X4_fewestBehind) 90 = .ok (.iinc 6 1, 3) := by decide +kernel
theorem d_X4_fewestBehind_93 : decode (zmc m_X4_fewestBehind) 93 = .ok (.goto (-64), 3) := by decide +kernel
theorem d_X4_fewestBehind_96 : decode (zmc m_X4_fewestBehind) 96 = .ok (.iload 5, 2) := by decide +kernel
theorem d_X4_fewestBehind_98 : decode (zmc m_X4_fewestBehind) 98 = .ok (.ireturn, 1) := by decide +kernel
theorem d_X4_mostBehind_0 : decode (zmc m_X4_mostBehind) 0 = .ok (.iload_n 2, 1) := by decide +kernel
theorem d_X4_mostBehind_1 : decode (zmc m_X4_mostBehind) 1 = .ok (.ifCond .gt 12, 3) := by decide +kernel
theorem d_X4_mostBehind_4 : decode (zmc m_X4_mostBehind) 4 = .ok (.aload_n 0, 1) := by decide +kernel
theorem d_X4_mostBehind_5 : decode (zmc m_X4_mostBehind) 5 = .ok (.iload_n 1, 1) := by decide +kernel
theorem d_X4_mostBehind_6 : decode (zmc m_X4_mostBehind) 6 = .ok (.invokevirtual 67, 3) := by decide +kernel
theorem d_X4_mostBehind_9 : decode (zmc m_X4_mostBehind) 9 = .ok (.invokestatic 33, 3) := by decide +kernel
theorem d_X4_mostBehind_12 : decode (zmc m_X4_mostBehind) 12 = .ok (.ireturn, 1) := by decide +kernel
theorem d_X4_mostBehind_13 : decode (zmc m_X4_mostBehind) 13 = .ok (.aload_n 0, 1) := by decide +kernel
theorem d_X4_mostBehind_14 : decode (zmc m_X4_mostBehind) 14 = .ok (.iload_n 1, 1) := by decide +kernel
theorem d_X4_mostBehind_15 : decode (zmc m_X4_mostBehind) 15 = .ok (.iload_n 2, 1) := by decide +kernel
theorem d_X4_mostBehind_16 : decode (zmc m_X4_mostBehind) 16 = .ok (.iconst 1, 1) := by decide +kernel
theorem d_X4_mostBehind_17 : decode (zmc m_X4_mostBehind) 17 = .ok (.isub, 1) := by decide +kernel
theorem d_X4_mostBehind_18 : decode (zmc m_X4_mostBehind) 18 = .ok (.iload_n 3, 1) := by decide +kernel
theorem d_X4_mostBehind_19 : decode (zmc m_X4_mostBehind) 19 = .ok (.iload 4, 2) := by decide +kernel
theorem d_X4_mostBehind_21 : decode (zmc m_X4_mostBehind) 21 = .ok (.invokevirtual 78, 3) := by decide +kernel
theorem d_X4_mostBehind_24 : decode (zmc m_X4_mostBehind) 24 = .ok (.istore 5, 2) := by decide +kernel
theorem d_X4_mostBehind_26 : decode (zmc m_X4_mostBehind) 26 = .ok (.iconst 0, 1) := by decide +kernel
theorem d_X4_mostBehind_27 : decode (zmc m_X4_mostBehind) 27 = .ok (.istore 6, 2) := by decide +kernel
theorem d_X4_mostBehind_29 : decode (zmc m_X4_mostBehind) 29 = .ok (.iload 6, 2) := by decide +kernel
theorem d_X4_mostBehind_31 : decode (zmc m_X4_mostBehind) 31 = .ok (.aload_n 0, 1) := by decide +kernel
theorem d_X4_mostBehind_32 : decode (zmc m_X4_mostBehind) 32 = .ok (.getfield 16, 3) := by decide +kernel
theorem d_X4_mostBehind_35 : decode (zmc m_X4_mostBehind) 35 = .ok (.getfield 85, 3) := by decide +kernel
theorem d_X4_mostBehind_38 : decode (zmc m_X4_mostBehind) 38 = .ok (.if_icmp .ge 64, 3) := by decide +kernel
theorem d_X4_mostBehind_41 : decode (zmc m_X4_mostBehind) 41 = .ok (.iload 5, 2) := by decide +kernel
theorem d_X4_mostBehind_43 : decode (zmc m_X4_mostBehind) 43 = .ok (.iload 4, 2) := by decide +kernel
theorem d_X4_mostBehind_45 : decode (zmc m_X4_mostBehind) 45 = .ok (.if_icmp .ge 57, 3) := by decide +kernel
theorem d_X4_mostBehind_48 : decode (zmc m_X4_mostBehind) 48 = .ok (.aload_n 0, 1) := by decide +kernel
theorem d_X4_mostBehind_49 : decode (zmc m_X4_mostBehind) 49 = .ok (.getfield 73, 3) := by decide +kernel
theorem d_X4_mostBehind_52 : decode (zmc m_X4_mostBehind) 52 = .ok (.iload_n 1, 1) := by decide +kernel
theorem d_X4_mostBehind_53 : decode (zmc m_X4_mostBehind) 53 = .ok (.iconst (-1), 1) := by decide +kernel
theorem d_X4_mostBehind_54 : decode (zmc m_X4_mostBehind) 54 = .ok (.ixor, 1) := by decide +kernel
theorem d_X4_mostBehind_55 : decode (zmc m_X4_mostBehind) 55 = .ok (.iand, 1) := by decide +kernel
theorem d_X4_mostBehind_56 : decode (zmc m_X4_mostBehind) 56 = .ok (.iconst 1, 1) := by decide +kernel
theorem d_X4_mostBehind_57 : decode (zmc m_X4_mostBehind) 57 = .ok (.iload 6, 2) := by decide +kernel
theorem d_X4_mostBehind_59 : decode (zmc m_X4_mostBehind) 59 = .ok (.ishl, 1) := by decide +kernel
theorem d_X4_mostBehind_60 : decode (zmc m_X4_mostBehind) 60 = .ok (.iand, 1) := by decide +kernel
theorem d_X4_mostBehind_61 : decode (zmc m_X4_mostBehind) 61 = .ok (.ifCond .eq 35, 3) := by decide +kernel
theorem d_X4_mostBehind_64 : decode (zmc m_X4_mostBehind) 64 = .ok (.aload_n 0, 1) := by decide +kernel
theorem d_X4_mostBehind_65 : decode (zmc m_X4_mostBehind) 65 = .ok (.iload_n 1, 1) := by decide +kernel
theorem d_X4_mostBehind_66 : decode (zmc m_X4_mostBehind) 66 = .ok (.iconst 1, 1) := by decide +kernel
theorem d_X4_mostBehind_67 : decode (zmc m_X4_mostBehind) 67 = .ok (.iload 6, 2) := by decide +kernel
theorem d_X4_mostBehind_69 : decode (zmc m_X4_mostBehind) 69 = .ok (.ishl, 1) := by decide +kernel
theorem d_X4_mostBehind_70 : decode (zmc m_X4_mostBehind) 70 = .ok (.ior, 1) := by decide +kernel
theorem d_X4_mostBehind_71 : decode (zmc m_X4_mostBehind) 71 = .ok (.iload_n 2, 1) := by decide +kernel
theorem d_X4_mostBehind_72 : decode (zmc m_X4_mostBehind) 72 = .ok (.iconst 1, 1) := by decide +kernel
theorem d_X4_mostBehind_73 : decode (zmc m_X4_mostBehind) 73 = .ok (.isub, 1) := by decide +kernel
theorem d_X4_mostBehind_74 : decode (zmc m_X4_mostBehind) 74 = .ok (.iload_n 3, 1) := by decide +kernel
theorem d_X4_mostBehind_75 : decode (zmc m_X4_mostBehind) 75 = .ok (.iload 5, 2) := by decide +kernel
theorem d_X4_mostBehind_77 : decode (zmc m_X4_mostBehind) 77 = .ok (.invokestatic 88, 3) := by decide +kernel
theorem d_X4_mostBehind_80 : decode (zmc m_X4_mostBehind) 80 = .ok (.iload 4, 2) := by decide +kernel
theorem d_X4_mostBehind_82 : decode (zmc m_X4_mostBehind) 82 = .ok (.invokevirtual 78, 3) := by decide +kernel
theorem d_X4_mostBehind_85 : decode (zmc m_X4_mostBehind) 85 = .ok (.istore 7, 2) := by decide +kernel
theorem d_X4_mostBehind_87 : decode (zmc m_X4_mostBehind) 87 = .ok (.iload 5, 2) := by decide +kernel
theorem d_X4_mostBehind_89 : decode (zmc m_X4_mostBehind) 89 = .ok (.iload 7, 2) := by decide +kernel
theorem d_X4_mostBehind_91 : decode (zmc m_X4_mostBehind) 91 = .ok (.invokestatic 88, 3) := by decide +kernel
theorem d_X4_mostBehind_94 : decode (zmc m_X4_mostBehind) 94 = .ok (.istore 5, 2) := by decide +kernel
theorem d_X4_mostBehind_96 : decode (zmc m_X4_mostBehind) 96 = .ok (.iinc 6 1, 3) := by decide +kernel
theorem d_X4_mostBehind_99 : decode (zmc m_X4_mostBehind) 99 = .ok (.goto (-70), 3) := by decide +kernel
theorem d_X4_mostBehind_102 : decode (zmc m_X4_mostBehind) 102 = .ok (.iload 5, 2) := by decide +kernel
theorem d_X4_mostBehind_104 : decode (zmc m_X4_mostBehind) 104 = .ok (.ireturn, 1) := by decide +kernel
/-! BY TURNS -/
def zmx (x y : Int32) : Int32 := if x < y then y else x
def zmn2 (x y : Int32) : Int32 := if y < x then y else x
def zB1 (k : Nat) : Int32 := (1 : Int32) <<< (nI k &&& 31)
/-- behind n turns more, the thrower's next (w true) or the map's -/
def zVal (I : Nat → Nat → Int32) (ns nh : Nat) (ah : Int32) : Nat → Bool → Int32 → Int32
  | 0, _, up => zbc (zSteer I nh up)
  | n + 1, true, up => zfor (fun k s => if (ah &&& (up ^^^ (-1))) &&& zB1 k = 0 then s else zmx s (zVal I ns nh ah n false (up ||| zB1 k))) ns 0 (zVal I ns nh ah n false up)
  | n + 1, false, up => zfor (fun k s => if up &&& zB1 k = 0 then s else zmn2 s (zVal I ns nh ah n true (up &&& (zB1 k ^^^ (-1))))) ns 0 (zVal I ns nh ah n true up)
/-- r tells v as far as it matters between lo and hi -/
def zAB (v r lo hi : Int32) : Prop := (v ≤ lo ∧ r ≤ lo) ∨ (hi ≤ v ∧ hi ≤ r) ∨ r = v
theorem zAB_mx {v b v' r lo hi : Int32} (h : lo < hi) (hb : b < hi) (h1 : zAB v b lo hi) (h2 : zAB v' r (zmx lo b) hi) : zAB (zmx v v') (zmx b r) lo hi := by
  unfold zAB zmx at *
  grind
theorem zAB_mn {v b v' r lo hi : Int32} (h : lo < hi) (hb : lo < b) (h1 : zAB v b lo hi) (h2 : zAB v' r lo (zmn2 hi b)) : zAB (zmn2 v v') (zmn2 b r) lo hi := by
  unfold zAB zmn2 at *
  grind
theorem zfor_ge {f : Nat → Int32 → Int32} (hf : ∀ k s, s ≤ f k s) (n : Nat) : ∀ k, k ≤ n → ∀ s, s ≤ zfor f n k s := by
  refine zloop n (fun k hk ih s => ?_)
  rcases Nat.eq_or_lt_of_le hk with e | hlt
  · rw [zfor_end (by omega)]; exact Int32.le_refl _
  · rw [zfor_step hlt]
    exact Int32.le_trans (hf k s) (ih hlt _)
theorem zfor_le {f : Nat → Int32 → Int32} (hf : ∀ k s, f k s ≤ s) (n : Nat) : ∀ k, k ≤ n → ∀ s, zfor f n k s ≤ s := by
  refine zloop n (fun k hk ih s => ?_)
  rcases Nat.eq_or_lt_of_le hk with e | hlt
  · rw [zfor_end (by omega)]; exact Int32.le_refl _
  · rw [zfor_step hlt]
    exact Int32.le_trans (ih hlt _) (hf k s)
theorem zmx_ge (x y : Int32) : x ≤ zmx x y := by unfold zmx; split <;> grind
theorem zmn_le (x y : Int32) : zmn2 x y ≤ x := by unfold zmn2; split <;> grind
section S18
variable {g : zG} {l : Launch} {I : Nat → Nat → Int32} {L : Nat → Nat → Int64} {fs : Nat × Nat × Option Nat} {ns nt nh : Nat}
theorem sp_X4_most (hK : zSky I ns nt nh) {ah : Int32} (hah : I 16 6 = ah) : ∀ (n : Nat), n ≤ 4 → ∀ (d : Nat) (up lo hi : Int32), 2 * n + 2 ≤ d → lo < hi →
    zSp g l d 100 m_X4_mostBehind [.ref 16, .int up, .int (nI n), .int lo, .int hi] (zU I L fs) (zX (fun x w => zAB (zVal I ns nh ah n true up) x lo hi ∧ w = zU I L fs)) ∧
    zSp g l d 100 m_X4_fewestBehind [.ref 16, .int up, .int (nI n), .int lo, .int hi] (zU I L fs) (zX (fun x w => zAB (zVal I ns nh ah n false up) x lo hi ∧ w = zU I L fs)) := by
  have hns := hK.2.1
  intro n
  induction n with
  | zero =>
    intro hn d up lo hi hd hlo
    constructor
    ·
      refine zSp_of (lv := [(0, .ref 16), (1, .int up), (2, .int (nI 0)), (3, .int lo), (4, .int hi)]) k_X4_mostBehind rfl (Nat.le_of_ble_eq_true rfl) ?_
      refine zIloadN d_X4_mostBehind_0 rfl rfl (q := 1) rfl ?_
      refine zIf_gt d_X4_mostBehind_1 (tgt := 13) (q := 4) (by decide) rfl (fun h => absurd h (by decide)) (fun h1 => ?_)
      refine zAloadN d_X4_mostBehind_4 rfl rfl (q := 5) rfl ?_
      refine zIloadN d_X4_mostBehind_5 rfl rfl (q := 6) rfl ?_
      refine zCallVP d_X4_mostBehind_6 ml_X4_67 k_X4_steering ki_X4_steering ks_X4_steering (sp_X4_steering (d := d - 1) (by omega) hK) rfl rfl sh_16 (by decide) rfl (by decide) (Nat.le_of_ble_eq_true rfl) (by decide) (by omega) zns100 (q := 9) rfl ?_
      refine zCallSP d_X4_mostBehind_9 ml_X4_33 k_J6_bitCount kt_J6_bitCount (sp_J6_bitCount (d := d - 1) (by omega) ) rfl rfl (Nat.le_of_ble_eq_true rfl) (by decide) (by omega) zns100 (q := 12) rfl ?_
      refine zIret d_X4_mostBehind_12 rfl rfl rfl ?_
      exact ⟨_, rfl, Or.inr (Or.inr rfl), rfl⟩
    ·
      refine zSp_of (lv := [(0, .ref 16), (1, .int up), (2, .int (nI 0)), (3, .int lo), (4, .int hi)]) k_X4_fewestBehind rfl (Nat.le_of_ble_eq_true rfl) ?_
      refine zIloadN d_X4_fewestBehind_0 rfl rfl (q := 1) rfl ?_
      refine zIf_gt d_X4_fewestBehind_1 (tgt := 13) (q := 4) (by decide) rfl (fun h => absurd h (by decide)) (fun h1 => ?_)
      refine zAloadN d_X4_fewestBehind_4 rfl rfl (q := 5) rfl ?_
      refine zIloadN d_X4_fewestBehind_5 rfl rfl (q := 6) rfl ?_
      refine zCallVP d_X4_fewestBehind_6 ml_X4_67 k_X4_steering ki_X4_steering ks_X4_steering (sp_X4_steering (d := d - 1) (by omega) hK) rfl rfl sh_16 (by decide) rfl (by decide) (Nat.le_of_ble_eq_true rfl) (by decide) (by omega) zns100 (q := 9) rfl ?_
      refine zCallSP d_X4_fewestBehind_9 ml_X4_33 k_J6_bitCount kt_J6_bitCount (sp_J6_bitCount (d := d - 1) (by omega) ) rfl rfl (Nat.le_of_ble_eq_true rfl) (by decide) (by omega) zns100 (q := 12) rfl ?_
      refine zIret d_X4_fewestBehind_12 rfl rfl rfl ?_
      exact ⟨_, rfl, Or.inr (Or.inr rfl), rfl⟩
  | succ n ih =>
    intro hn d up lo hi hd hlo
    have hp : 0 < nI (n + 1) := (nI_ltI (a := 0) (by omega) (by omega)).mpr (by omega)
    constructor
    · have loop : ∀ k, k ≤ ns → ∀ b acc, zAB acc b lo hi → zfor (fun k s => if (ah &&& (up ^^^ (-1))) &&& zB1 k = 0 then s else zmx s (zVal I ns nh ah n false (up ||| zB1 k))) ns k acc = zVal I ns nh ah (n + 1) true up → zA g l d m_X4_mostBehind I L fs 29 [(6, .int (nI k)), (5, .int b), (0, .ref 16), (1, .int up), (2, .int (nI (n + 1))), (3, .int lo), (4, .int hi)] (zX (fun x w => zAB (zVal I ns nh ah (n + 1) true up) x lo hi ∧ w = zU I L fs)) := by
        refine zloop ns (fun k hk ih2 b acc hab hx => ?_)
        have hge := zfor_ge (f := fun k s => if (ah &&& (up ^^^ (-1))) &&& zB1 k = 0 then s else zmx s (zVal I ns nh ah n false (up ||| zB1 k))) (fun k s => by split; exact Int32.le_refl _; exact zmx_ge _ _) ns k hk acc
        rw [hx] at hge
        refine zIload d_X4_mostBehind_29 rfl (q := 31) rfl ?_
        refine zAloadN d_X4_mostBehind_31 rfl rfl (q := 32) rfl ?_
        refine zGetR d_X4_mostBehind_32 ff_X4_16 sh_16 (by decide) r_16_0 (q := 35) rfl ?_
        refine zGetI d_X4_mostBehind_35 ff_X4_85 sh_1 (by decide) (q := 38) rfl ?_
        refine zIcmp_ge d_X4_mostBehind_38 (tgt := 102) (q := 41) (by decide) rfl (fun h38 => ?_) (fun h38 => ?_)
        · have e := nle (hK.1.1 ▸ h38)
          rw [zfor_end e] at hx
          have hfin : zAB (zVal I ns nh ah (n + 1) true up) b lo hi := hx ▸ hab
          refine zIload d_X4_mostBehind_102 rfl (q := 104) rfl ?_
          refine zIret d_X4_mostBehind_104 rfl rfl rfl ?_
          exact ⟨_, rfl, hfin, rfl⟩
        · have hlt := nnle (hK.1.1 ▸ h38)
          rw [zfor_step hlt] at hx
          refine zIload d_X4_mostBehind_41 rfl (q := 43) rfl ?_
          refine zIload d_X4_mostBehind_43 rfl (q := 45) rfl ?_
          refine zIcmp_ge d_X4_mostBehind_45 (tgt := 102) (q := 48) (by decide) rfl (fun h45 => ?_) (fun h45 => ?_)
          · have hfin : zAB (zVal I ns nh ah (n + 1) true up) b lo hi := by unfold zAB at *; grind
            refine zIload d_X4_mostBehind_102 rfl (q := 104) rfl ?_
            refine zIret d_X4_mostBehind_104 rfl rfl rfl ?_
            exact ⟨_, rfl, hfin, rfl⟩
          · have hbh : b < hi := Int32.not_le.mp h45
            refine zAloadN d_X4_mostBehind_48 rfl rfl (q := 49) rfl ?_
            refine zGetI d_X4_mostBehind_49 ff_X4_73 sh_16 (by decide) (q := 52) rfl ?_
            rw [hah]
            refine zIloadN d_X4_mostBehind_52 rfl rfl (q := 53) rfl ?_
            refine zIconst d_X4_mostBehind_53 (v := -1) ic_m1 (q := 54) rfl ?_
            refine zIxor d_X4_mostBehind_54 (q := 55) rfl ?_
            refine zIand d_X4_mostBehind_55 (q := 56) rfl ?_
            refine zIconst d_X4_mostBehind_56 (v := 1) ic_1 (q := 57) rfl ?_
            refine zIload d_X4_mostBehind_57 rfl (q := 59) rfl ?_
            refine zIshl d_X4_mostBehind_59 (q := 60) rfl ?_
            refine zIand d_X4_mostBehind_60 (q := 61) rfl ?_
            refine zIf_eq d_X4_mostBehind_61 (tgt := 96) (q := 64) (by decide) rfl (fun h61 => ?_) (fun h61 => ?_)
            · refine zIinc d_X4_mostBehind_96 rfl (zinc _) (by decide) rfl (q := 99) rfl ?_
              refine zGoto d_X4_mostBehind_99 (q := 29) (by decide) ?_
              refine zSub [0, 1, 2, 3, 4, 5, 6] rfl ?_
              first
              | exact ih2 hlt b acc hab (by rw [← hx]; congr 1; exact (if_pos h61).symm)
              | exact ih2 hlt (zmx b r) (zmx acc (zVal I ns nh ah n false (up ||| zB1 k))) (zAB_mx hlo hbh hab hr) (by rw [← hx]; congr 1; exact (if_neg h61).symm)
            · refine zAloadN d_X4_mostBehind_64 rfl rfl (q := 65) rfl ?_
              refine zIloadN d_X4_mostBehind_65 rfl rfl (q := 66) rfl ?_
              refine zIconst d_X4_mostBehind_66 (v := 1) ic_1 (q := 67) rfl ?_
              refine zIload d_X4_mostBehind_67 rfl (q := 69) rfl ?_
              refine zIshl d_X4_mostBehind_69 (q := 70) rfl ?_
              refine zIor d_X4_mostBehind_70 (q := 71) rfl ?_
              refine zIloadN d_X4_mostBehind_71 rfl rfl (q := 72) rfl ?_
              refine zIconst d_X4_mostBehind_72 (v := 1) ic_1 (q := 73) rfl ?_
              refine zIsub d_X4_mostBehind_73 (q := 74) rfl ?_
              rw [nI_pred]
              refine zIloadN d_X4_mostBehind_74 rfl rfl (q := 75) rfl ?_
              refine zIload d_X4_mostBehind_75 rfl (q := 77) rfl ?_
              refine zMax d_X4_mostBehind_77 ml_X4_88 (by omega) (Nat.le_of_ble_eq_true rfl) ⟨Nat.le_refl _, Nat.le_refl _⟩ (q := 80) rfl ?_
              refine zIload d_X4_mostBehind_80 rfl (q := 82) rfl ?_
              refine zCallVX d_X4_mostBehind_82 ml_X4_78 k_X4_fewestBehind ki_X4_fewestBehind ks_X4_fewestBehind ((ih (by omega) (d - 1) (up ||| zB1 k) (zmx lo b) hi (by omega) (by unfold zmx; split <;> assumption)).2) rfl rfl sh_16 (by decide) rfl (by decide) (Nat.le_of_ble_eq_true rfl) (by decide) (by omega) zns100 (q := 85) rfl (fun r w' hw' => ?_)
              obtain ⟨hr, rfl⟩ := hw'
              refine zIstore d_X4_mostBehind_85 (by decide) rfl (q := 87) rfl ?_
              refine zIload d_X4_mostBehind_87 rfl (q := 89) rfl ?_
              refine zIload d_X4_mostBehind_89 rfl (q := 91) rfl ?_
              refine zMax d_X4_mostBehind_91 ml_X4_88 (by omega) (Nat.le_of_ble_eq_true rfl) ⟨Nat.le_refl _, Nat.le_refl _⟩ (q := 94) rfl ?_
              refine zIstore d_X4_mostBehind_94 (by decide) rfl (q := 96) rfl ?_
              refine zIinc d_X4_mostBehind_96 rfl (zinc _) (by decide) rfl (q := 99) rfl ?_
              refine zGoto d_X4_mostBehind_99 (q := 29) (by decide) ?_
              refine zSub [0, 1, 3, 4, 5, 6, 7] rfl ?_
              first
              | exact ih2 hlt b acc hab (by rw [← hx]; congr 1; exact (if_pos h61).symm)
              | exact ih2 hlt (zmx b r) (zmx acc (zVal I ns nh ah n false (up ||| zB1 k))) (zAB_mx hlo hbh hab hr) (by rw [← hx]; congr 1; exact (if_neg h61).symm)
      refine zSp_of (lv := [(0, .ref 16), (1, .int up), (2, .int (nI (n + 1))), (3, .int lo), (4, .int hi)]) k_X4_mostBehind rfl (Nat.le_of_ble_eq_true rfl) ?_
      refine zIloadN d_X4_mostBehind_0 rfl rfl (q := 1) rfl ?_
      refine zIf_gt d_X4_mostBehind_1 (tgt := 13) (q := 4) (by decide) rfl (fun h1 => ?_) (fun h => absurd hp h)
      refine zAloadN d_X4_mostBehind_13 rfl rfl (q := 14) rfl ?_
      refine zIloadN d_X4_mostBehind_14 rfl rfl (q := 15) rfl ?_
      refine zIloadN d_X4_mostBehind_15 rfl rfl (q := 16) rfl ?_
      refine zIconst d_X4_mostBehind_16 (v := 1) ic_1 (q := 17) rfl ?_
      refine zIsub d_X4_mostBehind_17 (q := 18) rfl ?_
      rw [nI_pred]
      refine zIloadN d_X4_mostBehind_18 rfl rfl (q := 19) rfl ?_
      refine zIload d_X4_mostBehind_19 rfl (q := 21) rfl ?_
      refine zCallVX d_X4_mostBehind_21 ml_X4_78 k_X4_fewestBehind ki_X4_fewestBehind ks_X4_fewestBehind ((ih (by omega) (d - 1) up lo hi (by omega) hlo).2) rfl rfl sh_16 (by decide) rfl (by decide) (Nat.le_of_ble_eq_true rfl) (by decide) (by omega) zns100 (q := 24) rfl (fun r w' hw' => ?_)
      obtain ⟨hr, rfl⟩ := hw'
      refine zIstore d_X4_mostBehind_24 (by decide) rfl (q := 26) rfl ?_
      refine zIconst d_X4_mostBehind_26 (v := 0) ic_0 (q := 27) rfl ?_
      refine zIstore d_X4_mostBehind_27 (by decide) rfl (q := 29) rfl ?_
      refine zSub [0, 1, 2, 3, 4, 5, 6] rfl ?_
      exact loop 0 (Nat.zero_le _) r _ hr rfl
    · have loop : ∀ k, k ≤ ns → ∀ b acc, zAB acc b lo hi → zfor (fun k s => if up &&& zB1 k = 0 then s else zmn2 s (zVal I ns nh ah n true (up &&& (zB1 k ^^^ (-1))))) ns k acc = zVal I ns nh ah (n + 1) false up → zA g l d m_X4_fewestBehind I L fs 29 [(6, .int (nI k)), (5, .int b), (0, .ref 16), (1, .int up), (2, .int (nI (n + 1))), (3, .int lo), (4, .int hi)] (zX (fun x w => zAB (zVal I ns nh ah (n + 1) false up) x lo hi ∧ w = zU I L fs)) := by
        refine zloop ns (fun k hk ih2 b acc hab hx => ?_)
        have hge := zfor_le (f := fun k s => if up &&& zB1 k = 0 then s else zmn2 s (zVal I ns nh ah n true (up &&& (zB1 k ^^^ (-1))))) (fun k s => by split; exact Int32.le_refl _; exact zmn_le _ _) ns k hk acc
        rw [hx] at hge
        refine zIload d_X4_fewestBehind_29 rfl (q := 31) rfl ?_
        refine zAloadN d_X4_fewestBehind_31 rfl rfl (q := 32) rfl ?_
        refine zGetR d_X4_fewestBehind_32 ff_X4_16 sh_16 (by decide) r_16_0 (q := 35) rfl ?_
        refine zGetI d_X4_fewestBehind_35 ff_X4_85 sh_1 (by decide) (q := 38) rfl ?_
        refine zIcmp_ge d_X4_fewestBehind_38 (tgt := 96) (q := 41) (by decide) rfl (fun h38 => ?_) (fun h38 => ?_)
        · have e := nle (hK.1.1 ▸ h38)
          rw [zfor_end e] at hx
          have hfin : zAB (zVal I ns nh ah (n + 1) false up) b lo hi := hx ▸ hab
          refine zIload d_X4_fewestBehind_96 rfl (q := 98) rfl ?_
          refine zIret d_X4_fewestBehind_98 rfl rfl rfl ?_
          exact ⟨_, rfl, hfin, rfl⟩
        · have hlt := nnle (hK.1.1 ▸ h38)
          rw [zfor_step hlt] at hx
          refine zIload d_X4_fewestBehind_41 rfl (q := 43) rfl ?_
          refine zIloadN d_X4_fewestBehind_43 rfl rfl (q := 44) rfl ?_
          refine zIcmp_le d_X4_fewestBehind_44 (tgt := 96) (q := 47) (by decide) rfl (fun h44 => ?_) (fun h44 => ?_)
          · have hfin : zAB (zVal I ns nh ah (n + 1) false up) b lo hi := by unfold zAB at *; grind
            refine zIload d_X4_fewestBehind_96 rfl (q := 98) rfl ?_
            refine zIret d_X4_fewestBehind_98 rfl rfl rfl ?_
            exact ⟨_, rfl, hfin, rfl⟩
          · have hbh : lo < b := Int32.not_le.mp h44
            refine zIloadN d_X4_fewestBehind_47 rfl rfl (q := 48) rfl ?_
            refine zIconst d_X4_fewestBehind_48 (v := 1) ic_1 (q := 49) rfl ?_
            refine zIload d_X4_fewestBehind_49 rfl (q := 51) rfl ?_
            refine zIshl d_X4_fewestBehind_51 (q := 52) rfl ?_
            refine zIand d_X4_fewestBehind_52 (q := 53) rfl ?_
            refine zIf_eq d_X4_fewestBehind_53 (tgt := 90) (q := 56) (by decide) rfl (fun h53 => ?_) (fun h53 => ?_)
            · refine zIinc d_X4_fewestBehind_90 rfl (zinc _) (by decide) rfl (q := 93) rfl ?_
              refine zGoto d_X4_fewestBehind_93 (q := 29) (by decide) ?_
              refine zSub [0, 1, 2, 3, 4, 5, 6] rfl ?_
              first
              | exact ih2 hlt b acc hab (by rw [← hx]; congr 1; exact (if_pos h53).symm)
              | exact ih2 hlt (zmn2 b r) (zmn2 acc (zVal I ns nh ah n true (up &&& (zB1 k ^^^ (-1))))) (zAB_mn hlo hbh hab hr) (by rw [← hx]; congr 1; exact (if_neg h53).symm)
            · refine zAloadN d_X4_fewestBehind_56 rfl rfl (q := 57) rfl ?_
              refine zIloadN d_X4_fewestBehind_57 rfl rfl (q := 58) rfl ?_
              refine zIconst d_X4_fewestBehind_58 (v := 1) ic_1 (q := 59) rfl ?_
              refine zIload d_X4_fewestBehind_59 rfl (q := 61) rfl ?_
              refine zIshl d_X4_fewestBehind_61 (q := 62) rfl ?_
              refine zIconst d_X4_fewestBehind_62 (v := -1) ic_m1 (q := 63) rfl ?_
              refine zIxor d_X4_fewestBehind_63 (q := 64) rfl ?_
              refine zIand d_X4_fewestBehind_64 (q := 65) rfl ?_
              refine zIloadN d_X4_fewestBehind_65 rfl rfl (q := 66) rfl ?_
              refine zIconst d_X4_fewestBehind_66 (v := 1) ic_1 (q := 67) rfl ?_
              refine zIsub d_X4_fewestBehind_67 (q := 68) rfl ?_
              rw [nI_pred]
              refine zIloadN d_X4_fewestBehind_68 rfl rfl (q := 69) rfl ?_
              refine zIload d_X4_fewestBehind_69 rfl (q := 71) rfl ?_
              refine zIload d_X4_fewestBehind_71 rfl (q := 73) rfl ?_
              refine zMin d_X4_fewestBehind_73 ml_X4_97 (by omega) (Nat.le_of_ble_eq_true rfl) ⟨Nat.le_refl _, Nat.le_refl _⟩ (q := 76) rfl ?_
              refine zCallVX d_X4_fewestBehind_76 ml_X4_94 k_X4_mostBehind ki_X4_mostBehind ks_X4_mostBehind ((ih (by omega) (d - 1) (up &&& (zB1 k ^^^ (-1))) lo (zmn2 hi b) (by omega) (by unfold zmn2; split <;> assumption)).1) rfl rfl sh_16 (by decide) rfl (by decide) (Nat.le_of_ble_eq_true rfl) (by decide) (by omega) zns100 (q := 79) rfl (fun r w' hw' => ?_)
              obtain ⟨hr, rfl⟩ := hw'
              refine zIstore d_X4_fewestBehind_79 (by decide) rfl (q := 81) rfl ?_
              refine zIload d_X4_fewestBehind_81 rfl (q := 83) rfl ?_
              refine zIload d_X4_fewestBehind_83 rfl (q := 85) rfl ?_
              refine zMin d_X4_fewestBehind_85 ml_X4_97 (by omega) (Nat.le_of_ble_eq_true rfl) ⟨Nat.le_refl _, Nat.le_refl _⟩ (q := 88) rfl ?_
              refine zIstore d_X4_fewestBehind_88 (by decide) rfl (q := 90) rfl ?_
              refine zIinc d_X4_fewestBehind_90 rfl (zinc _) (by decide) rfl (q := 93) rfl ?_
              refine zGoto d_X4_fewestBehind_93 (q := 29) (by decide) ?_
              refine zSub [0, 1, 3, 4, 5, 6, 7] rfl ?_
              first
              | exact ih2 hlt b acc hab (by rw [← hx]; congr 1; exact (if_pos h53).symm)
              | exact ih2 hlt (zmn2 b r) (zmn2 acc (zVal I ns nh ah n true (up &&& (zB1 k ^^^ (-1))))) (zAB_mn hlo hbh hab hr) (by rw [← hx]; congr 1; exact (if_neg h53).symm)
      refine zSp_of (lv := [(0, .ref 16), (1, .int up), (2, .int (nI (n + 1))), (3, .int lo), (4, .int hi)]) k_X4_fewestBehind rfl (Nat.le_of_ble_eq_true rfl) ?_
      refine zIloadN d_X4_fewestBehind_0 rfl rfl (q := 1) rfl ?_
      refine zIf_gt d_X4_fewestBehind_1 (tgt := 13) (q := 4) (by decide) rfl (fun h1 => ?_) (fun h => absurd hp h)
      refine zAloadN d_X4_fewestBehind_13 rfl rfl (q := 14) rfl ?_
      refine zIloadN d_X4_fewestBehind_14 rfl rfl (q := 15) rfl ?_
      refine zIloadN d_X4_fewestBehind_15 rfl rfl (q := 16) rfl ?_
      refine zIconst d_X4_fewestBehind_16 (v := 1) ic_1 (q := 17) rfl ?_
      refine zIsub d_X4_fewestBehind_17 (q := 18) rfl ?_
      rw [nI_pred]
      refine zIloadN d_X4_fewestBehind_18 rfl rfl (q := 19) rfl ?_
      refine zIload d_X4_fewestBehind_19 rfl (q := 21) rfl ?_
      refine zCallVX d_X4_fewestBehind_21 ml_X4_94 k_X4_mostBehind ki_X4_mostBehind ks_X4_mostBehind ((ih (by omega) (d - 1) up lo hi (by omega) hlo).1) rfl rfl sh_16 (by decide) rfl (by decide) (Nat.le_of_ble_eq_true rfl) (by decide) (by omega) zns100 (q := 24) rfl (fun r w' hw' => ?_)
      obtain ⟨hr, rfl⟩ := hw'
      refine zIstore d_X4_fewestBehind_24 (by decide) rfl (q := 26) rfl ?_
      refine zIconst d_X4_fewestBehind_26 (v := 0) ic_0 (q := 27) rfl ?_
      refine zIstore d_X4_fewestBehind_27 (by decide) rfl (q := 29) rfl ?_
      refine zSub [0, 1, 2, 3, 4, 5, 6] rfl ?_
      exact loop 0 (Nat.zero_le _) r _ hr rfl
end S18
end
section
theorem d_X6_clear_0 : decode (zmc m_X6_clear) 0 = .ok (.aload_n 0, 1) := by decide +kernel
theorem d_X6_clear_1 : decode (zmc m_X6_clear) 1 = .ok (.iconst 0, 1) := by decide +kernel
theorem d_X6_clear_2 : decode (zmc m_X6_clear) 2 = .ok (.putfield 22, 3) := by decide +kernel
theorem d_X6_clear_5 : decode (zmc m_X6_clear) 5 = .ok (.return_, 1) := by decide +kernel
theorem d_X6_joined_0 : decode (zmc m_X6_joined) 0 = .ok (.iload_n 0, 1) := by decide +kernel
theorem d_X6_joined_1 : decode (zmc m_X6_joined) 1 = .ok (.lookupswitch 203 #[(37, 191), (38, 108), (42, 175), (43, 167), (45, 171), (47, 179), (60, 125), (61, 139), (62, 153), (124, 91)], 91) := by decide +kernel
theorem d_X6_joined_92 : decode (zmc m_X6_joined) 92 = .ok (.iload_n 1, 1) := by decide +kernel
theorem d_X6_joined_93 : decode (zmc m_X6_joined) 93 = .ok (.ifCond .ne 7, 3) := by decide +kernel
theorem d_X6_joined_96 : decode (zmc m_X6_joined) 96 = .ok (.iload_n 2, 1) := by decide +kernel
theorem d_X6_joined_97 : decode (zmc m_X6_joined) 97 = .ok (.ifCond .eq 7, 3) := by decide +kernel
theorem d_X6_joined_100 : decode (zmc m_X6_joined) 100 = .ok (.iconst 1, 1) := by decide +kernel
theorem d_X6_joined_101 : decode (zmc m_X6_joined) 101 = .ok (.goto 4, 3) := by decide +kernel
theorem d_X6_joined_104 : decode (zmc m_X6_joined) 104 = .ok (.iconst 0, 1) := by decide +kernel
theorem d_X6_joined_105 : decode (zmc m_X6_joined) 105 = .ok (.invokestatic 51, 3) := by decide +kernel
theorem d_X6_joined_108 : decode (zmc m_X6_joined) 108 = .ok (.ireturn, 1) := by decide +kernel
theorem d_X6_joined_109 : decode (zmc m_X6_joined) 109 = .ok (.iload_n 1, 1) := by decide +kernel
theorem d_X6_joined_110 : decode (zmc m_X6_joined) 110 = .ok (.ifCond .eq 11, 3) := by decide +kernel
theorem d_X6_joined_113 : decode (zmc m_X6_joined) 113 = .ok (.iload_n 2, 1) := by decide +kernel
theorem d_X6_joined_114 : decode (zmc m_X6_joined) 114 = .ok (.ifCond .eq 7, 3) := by decide +kernel
theorem d_X6_joined_117 : decode (zmc m_X6_joined) 117 = .ok (.iconst 1, 1) := by decide +kernel
theorem d_X6_joined_118 : decode (zmc m_X6_joined) 118 = .ok (.goto 4, 3) := by decide +kernel
theorem d_X6_joined_121 : decode (zmc m_X6_joined) 121 = .ok (.iconst 0, 1) := by decide +kernel
theorem d_X6_joined_122 : decode (zmc m_X6_joined) 122 = .ok (.invokestatic 51, 3) := by decide +kernel
theorem d_X6_joined_125 : decode (zmc m_X6_joined) 125 = .ok (.ireturn, 1) := by decide +kernel
theorem d_X6_joined_126 : decode (zmc m_X6_joined) 126 = .ok (.iload_n 1, 1) := by decide +kernel
theorem d_X6_joined_127 : decode (zmc m_X6_joined) 127 = .ok (.iload_n 2, 1) := by decide +kernel
theorem d_X6_joined_128 : decode (zmc m_X6_joined) 128 = .ok (.if_icmp .ge 7, 3) := by decide +kernel
theorem d_X6_joined_131 : decode (zmc m_X6_joined) 131 = .ok (.iconst 1, 1) := by decide +kernel
theorem d_X6_joined_132 : decode (zmc m_X6_joined) 132 = .ok (.goto 4, 3) := by decide +kernel
theorem d_X6_joined_135 : decode (zmc m_X6_joined) 135 = .ok (.iconst 0, 1) := by decide +kernel
theorem d_X6_joined_136 : decode (zmc m_X6_joined) 136 = .ok (.invokestatic 51, 3) := by decide +kernel
theorem d_X6_joined_139 : decode (zmc m_X6_joined) 139 = .ok (.ireturn, 1) := by decide +kernel
theorem d_X6_joined_140 : decode (zmc m_X6_joined) 140 = .ok (.iload_n 1, 1) := by decide +kernel
theorem d_X6_joined_141 : decode (zmc m_X6_joined) 141 = .ok (.iload_n 2, 1) := by decide +kernel
theorem d_X6_joined_142 : decode (zmc m_X6_joined) 142 = .ok (.if_icmp .ne 7, 3) := by decide +kernel
theorem d_X6_joined_145 : decode (zmc m_X6_joined) 145 = .ok (.iconst 1, 1) := by decide +kernel
theorem d_X6_joined_146 : decode (zmc m_X6_joined) 146 = .ok (.goto 4, 3) := by decide +kernel
theorem d_X6_joined_149 : decode (zmc m_X6_joined) 149 = .ok (.iconst 0, 1) := by decide +kernel
theorem d_X6_joined_150 : decode (zmc m_X6_joined) 150 = .ok (.invokestatic 51, 3) := by decide +kernel
theorem d_X6_joined_153 : decode (zmc m_X6_joined) 153 = .ok (.ireturn, 1) := by decide +kernel
theorem d_X6_joined_154 : decode (zmc m_X6_joined) 154 = .ok (.iload_n 1, 1) := by decide +kernel
theorem d_X6_joined_155 : decode (zmc m_X6_joined) 155 = .ok (.iload_n 2, 1) := by decide +kernel
theorem d_X6_joined_156 : decode (zmc m_X6_joined) 156 = .ok (.if_icmp .le 7, 3) := by decide +kernel
theorem d_X6_joined_159 : decode (zmc m_X6_joined) 159 = .ok (.iconst 1, 1) := by decide +kernel
theorem d_X6_joined_160 : decode (zmc m_X6_joined) 160 = .ok (.goto 4, 3) := by decide +kernel
theorem d_X6_joined_163 : decode (zmc m_X6_joined) 163 = .ok (.iconst 0, 1) := by decide +kernel
theorem d_X6_joined_164 : decode (zmc m_X6_joined) 164 = .ok (.invokestatic 51, 3) := by decide +kernel
theorem d_X6_joined_167 : decode (zmc m_X6_joined) 167 = .ok (.ireturn, 1) := by decide +kernel
theorem d_X6_joined_168 : decode (zmc m_X6_joined) 168 = .ok (.iload_n 1, 1) := by decide +kernel
theorem d_X6_joined_169 : decode (zmc m_X6_joined) 169 = .ok (.iload_n 2, 1) := by decide +kernel
theorem d_X6_joined_170 : decode (zmc m_X6_joined) 170 = .ok (.iadd, 1) := by decide +kernel
theorem d_X6_joined_171 : decode (zmc m_X6_joined) 171 = .ok (.ireturn, 1) := by decide +kernel
theorem d_X6_joined_172 : decode (zmc m_X6_joined) 172 = .ok (.iload_n 1, 1) := by decide +kernel
theorem d_X6_joined_173 : decode (zmc m_X6_joined) 173 = .ok (.iload_n 2, 1) := by decide +kernel
theorem d_X6_joined_174 : decode (zmc m_X6_joined) 174 = .ok (.isub, 1) := by decide +kernel
theorem d_X6_joined_175 : decode (zmc m_X6_joined) 175 = .ok (.ireturn, 1) := by decide +kernel
theorem d_X6_joined_176 : decode (zmc m_X6_joined) 176 = .ok (.iload_n 1, 1) := by decide +kernel
theorem d_X6_joined_177 : decode (zmc m_X6_joined) 177 = .ok (.iload_n 2, 1) := by decide +kernel
theorem d_X6_joined_178 : decode (zmc m_X6_joined) 178 = .ok (.imul, 1) := by decide +kernel
theorem d_X6_joined_179 : decode (zmc m_X6_joined) 179 = .ok (.ireturn, 1) := by decide +kernel
theorem d_X6_joined_180 : decode (zmc m_X6_joined) 180 = .ok (.iload_n 2, 1) := by decide +kernel
theorem d_X6_joined_181 : decode (zmc m_X6_joined) 181 = .ok (.ifCond .ne 7, 3) := by decide +kernel
theorem d_X6_joined_184 : decode (zmc m_X6_joined) 184 = .ok (.iconst 0, 1) := by decide +kernel
theorem d_X6_joined_185 : decode (zmc m_X6_joined) 185 = .ok (.goto 6, 3) := by decide +kernel
theorem d_X6_joined_188 : decode (zmc m_X6_joined) 188 = .ok (.iload_n 1, 1) := by decide +kernel
theorem d_X6_joined_189 : decode (zmc m_X6_joined) 189 = .ok (.iload_n 2, 1) := by decide +kernel
theorem d_X6_joined_190 : decode (zmc m_X6_joined) 190 = .ok (.idiv, 1) := by decide +kernel
theorem d_X6_joined_191 : decode (zmc m_X6_joined) 191 = .ok (.ireturn, 1) := by decide +kernel
theorem d_X6_joined_192 : decode (zmc m_X6_joined) 192 = .ok (.iload_n 2, 1) := by decide +kernel
theorem d_X6_joined_193 : decode (zmc m_X6_joined) 193 = .ok (.ifCond .ne 7, 3) := by decide +kernel
theorem d_X6_joined_196 : decode (zmc m_X6_joined) 196 = .ok (.iconst 0, 1) := by decide +kernel
theorem d_X6_joined_197 : decode (zmc m_X6_joined) 197 = .ok (.goto 6, 3) := by decide +kernel
theorem d_X6_joined_200 : decode (zmc m_X6_joined) 200 = .ok (.iload_n 1, 1) := by decide +kernel
theorem d_X6_joined_201 : decode (zmc m_X6_joined) 201 = .ok (.iload_n 2, 1) := by decide +kernel
theorem d_X6_joined_202 : decode (zmc m_X6_joined) 202 = .ok (.irem, 1) := by decide +kernel
theorem d_X6_joined_203 : decode (zmc m_X6_joined) 203 = .ok (.ireturn, 1) := by decide +kernel
theorem d_X6_joined_204 : decode (zmc m_X6_joined) 204 = .ok (.iconst 0, 1) := by decide +kernel
theorem d_X6_joined_205 : decode (zmc m_X6_joined) 205 = .ok (.ireturn, 1) := by decide +kernel
theorem d_X6_named_0 : decode (zmc m_X6_named) 0 = .ok (.iload_n 1, 1) := by decide +kernel
theorem d_X6_named_1 : decode (zmc m_X6_named) 1 = .ok (.ifCond .lt 18, 3) := by decide +kernel
theorem d_X6_named_4 : decode (zmc m_X6_named) 4 = .ok (.iload_n 1, 1) := by decide +kernel
theorem d_X6_named_5 : decode (zmc m_X6_named) 5 = .ok (.bipush 6, 2) := by decide +kernel
theorem d_X6_named_7 : decode (zmc m_X6_named) 7 = .ok (.if_icmp .ge 12, 3) := by decide +kernel
theorem d_X6_named_10 : decode (zmc m_X6_named) 10 = .ok (.aload_n 0, 1) := by decide +kernel
theorem d_X6_named_11 : decode (zmc m_X6_named) 11 = .ok (.getfield 19, 3) := by decide +kernel
theorem d_X6_named_14 : decode (zmc m_X6_named) 14 = .ok (.iload_n 1, 1) := by decide +kernel
theorem d_X6_named_15 : decode (zmc m_X6_named) 15 = .ok (.iaload, 1) := by decide +kernel
theorem d_X6_named_16 : decode (zmc m_X6_named) 16 = .ok (.goto 4, 3) := by decide +kernel
theorem d_X6_named_19 : decode (zmc m_X6_named) 19 = .ok (.iconst 0, 1) := by decide +kernel
theorem d_X6_named_20 : decode (zmc m_X6_named) 20 = .ok (.ireturn, 1) := by decide +kernel
theorem d_X6_truth_0 : decode (zmc m_X6_truth) 0 = .ok (.iload_n 0, 1) := by decide +kernel
theorem d_X6_truth_1 : decode (zmc m_X6_truth) 1 = .ok (.ifCond .eq 7, 3) := by decide +kernel
theorem d_X6_truth_4 : decode (zmc m_X6_truth) 4 = .ok (.iconst 1, 1) := by decide +kernel
theorem d_X6_truth_5 : decode (zmc m_X6_truth) 5 = .ok (.goto 4, 3) := by decide +kernel
theorem d_X6_truth_8 : decode (zmc m_X6_truth) 8 = .ok (.iconst 0, 1) := by decide +kernel
theorem d_X6_truth_9 : decode (zmc m_X6_truth) 9 = .ok (.ireturn, 1) := by decide +kernel
theorem d_X6_withoutText_0 : decode (zmc m_X6_withoutText) 0 = .ok (.bipush 6, 2) := by decide +kernel
theorem d_X6_withoutText_2 : decode (zmc m_X6_withoutText) 2 = .ok (.aload_n 0, 1) := by decide +kernel
theorem d_X6_withoutText_3 : decode (zmc m_X6_withoutText) 3 = .ok (.getfield 19, 3) := by decide +kernel
theorem d_X6_withoutText_6 : decode (zmc m_X6_withoutText) 6 = .ok (.iconst 0, 1) := by decide +kernel
theorem d_X6_withoutText_7 : decode (zmc m_X6_withoutText) 7 = .ok (.iaload, 1) := by decide +kernel
theorem d_X6_withoutText_8 : decode (zmc m_X6_withoutText) 8 = .ok (.iconst 2, 1) := by decide +kernel
theorem d_X6_withoutText_9 : decode (zmc m_X6_withoutText) 9 = .ok (.idiv, 1) := by decide +kernel
theorem d_X6_withoutText_10 : decode (zmc m_X6_withoutText) 10 = .ok (.iadd, 1) := by decide +kernel
theorem d_X6_withoutText_11 : decode (zmc m_X6_withoutText) 11 = .ok (.aload_n 0, 1) := by decide +kernel
theorem d_X6_withoutText_12 : decode (zmc m_X6_withoutText) 12 = .ok (.getfield 19, 3) := by decide +kernel
theorem d_X6_withoutText_15 : decode (zmc m_X6_withoutText) 15 = .ok (.iconst 1, 1) := by decide +kernel
theorem d_X6_withoutText_16 : decode (zmc m_X6_withoutText) 16 = .ok (.iaload, 1) := by decide +kernel
theorem d_X6_withoutText_17 : decode (zmc m_X6_withoutText) 17 = .ok (.iconst 3, 1) := by decide +kernel
theorem d_X6_withoutText_18 : decode (zmc m_X6_withoutText) 18 = .ok (.idiv, 1) := by decide +kernel
theorem d_X6_withoutText_19 : decode (zmc m_X6_withoutText) 19 = .ok (.iadd, 1) := by decide +kernel
theorem d_X6_withoutText_20 : decode (zmc m_X6_withoutText) 20 = .ok (.aload_n 0, 1) := by decide +kernel
theorem d_X6_withoutText_21 : decode (zmc m_X6_withoutText) 21 = .ok (.getfield 19, 3) := by decide +kernel
theorem d_X6_withoutText_24 : decode (zmc m_X6_withoutText) 24 = .ok (.iconst 2, 1) := by decide +kernel
theorem d_X6_withoutText_25 : decode (zmc m_X6_withoutText) 25 = .ok (.iaload, 1) := by decide +kernel
theorem d_X6_withoutText_26 : decode (zmc m_X6_withoutText) 26 = .ok (.iconst 3, 1) := by decide +kernel
theorem d_X6_withoutText_27 : decode (zmc m_X6_withoutText) 27 = .ok (.idiv, 1) := by decide +kernel
theorem d_X6_withoutText_28 : decode (zmc m_X6_withoutText) 28 = .ok (.isub, 1) := by decide +kernel
theorem d_X6_withoutText_29 : decode (zmc m_X6_withoutText) 29 = .ok (.aload_n 0, 1) := by decide +kernel
theorem d_X6_withoutText_30 : decode (zmc m_X6_withoutText) 30 = .ok (.getfield 19, 3) := by decide +kernel
theorem d_X6_withoutText_33 : decode (zmc m_X6_withoutText) 33 = .ok (.iconst 3, 1) := by decide +kernel
theorem d_X6_withoutText_34 : decode (zmc m_X6_withoutText) 34 = .ok (.iaload, 1) := by decide +kernel
theorem d_X6_withoutText_35 : decode (zmc m_X6_withoutText) 35 = .ok (.iconst 2, 1) := by decide +kernel
theorem d_X6_withoutText_36 : decode (zmc m_X6_withoutText) 36 = .ok (.idiv, 1) := by decide +kernel
theorem d_X6_withoutText_37 : decode (zmc m_X6_withoutText) 37 = .ok (.isub, 1) := by decide +kernel
theorem d_X6_withoutText_38 : decode (zmc m_X6_withoutText) 38 = .ok (.ireturn, 1) := by decide +kernel
/-! A LAW -/
def zLwf (h : Nat) : Prop := zsh h = (6, 5) ∧ zsh (h + 1) = (20, 128) ∧ zsh (h + 2) = (20, 128) ∧ zsh (h + 3) = (20, 128) ∧ zsh (h + 4) = (20, 6) ∧ h + 4 < 100 ∧ 42 ≤ h ∧ ∀ fs, zR fs h 0 = some (h + 1) ∧ zR fs h 1 = some (h + 2) ∧ zR fs h 2 = some (h + 3) ∧ zR fs h 3 = some (h + 4)
theorem zlw54 : zLwf 54 := ⟨rfl, rfl, rfl, rfl, rfl, by decide, by decide, fun _ => ⟨rfl, rfl, rfl, rfl⟩⟩
theorem zlw59 : zLwf 59 := ⟨rfl, rfl, rfl, rfl, rfl, by decide, by decide, fun _ => ⟨rfl, rfl, rfl, rfl⟩⟩
theorem zlt4 {h : Nat} (hw : zLwf h) : h < 100 := by have := hw.2.2.2.2.2.1; omega
theorem zlt1 {h : Nat} (hw : zLwf h) : h + 1 < 100 := by have := hw.2.2.2.2.2.1; omega
theorem zlt2 {h : Nat} (hw : zLwf h) : h + 2 < 100 := by have := hw.2.2.2.2.2.1; omega
theorem zlt3 {h : Nat} (hw : zLwf h) : h + 3 < 100 := by have := hw.2.2.2.2.2.1; omega
theorem zlw0 {h : Nat} {fs : Nat × Nat × Option Nat} (hw : zLwf h) : zR fs h 0 = some (h + 1) := (hw.2.2.2.2.2.2.2 fs).1
theorem zlw1 {h : Nat} {fs : Nat × Nat × Option Nat} (hw : zLwf h) : zR fs h 1 = some (h + 2) := (hw.2.2.2.2.2.2.2 fs).2.1
theorem zlw2 {h : Nat} {fs : Nat × Nat × Option Nat} (hw : zLwf h) : zR fs h 2 = some (h + 3) := (hw.2.2.2.2.2.2.2 fs).2.2.1
theorem zlw3 {h : Nat} {fs : Nat × Nat × Option Nat} (hw : zLwf h) : zR fs h 3 = some (h + 4) := (hw.2.2.2.2.2.2.2 fs).2.2.2
/-- a text worked out: a step is a sign (0 a number, 1 a name, 4 no, 5 less, else a joining byte) and its worth -/
abbrev zSt1 : Type := Int32 × Int32
abbrev zLine : Type := Option (List zSt1) × List zSt1
def zJn (t x y : Int32) : Int32 :=
  if t = 37 then (if y = 0 then 0 else x - x / y * y) else if t = 38 then bi (¬ x = 0 ∧ ¬ y = 0) else if t = 42 then x * y else if t = 43 then x + y else if t = 45 then x - y
  else if t = 47 then (if y = 0 then 0 else x / y) else if t = 60 then bi (x < y) else if t = 61 then bi (x = y) else if t = 62 then bi (y < x) else if t = 124 then bi (¬ x = 0 ∨ ¬ y = 0) else 0
def zStp (env : Nat → Int32) (c : zSt1) : List Int32 → List Int32
  | [] => if c.1 = 0 then [c.2] else if c.1 = 1 then [env c.2.toNatClampNeg] else []
  | [x] => if c.1 = 0 then [c.2, x] else if c.1 = 1 then [env c.2.toNatClampNeg, x] else if c.1 = 4 then [if x = 0 then 1 else 0] else if c.1 = 5 then [-x] else [x]
  | y :: x :: r => if c.1 = 0 then c.2 :: y :: x :: r else if c.1 = 1 then env c.2.toNatClampNeg :: y :: x :: r else if c.1 = 4 then (if y = 0 then 1 else 0) :: x :: r else if c.1 = 5 then -y :: x :: r else zJn c.1 x y :: r
def zRunS (env : Nat → Int32) : List zSt1 → List Int32 → List Int32
  | [], s => s
  | c :: r, s => zRunS env r (zStp env c s)
/-- the steps can be gone through from a height on, and leave a height -/
def zWfS : List zSt1 → Nat → Nat → Prop
  | [], a, b => a = b
  | c :: r, a, b => (c.1 = 0 ∧ zWfS r (a + 1) b) ∨ (c.1 = 1 ∧ (∃ k : Nat, k < 6 ∧ c.2 = nI k) ∧ zWfS r (a + 1) b) ∨ ((c.1 = 4 ∨ c.1 = 5) ∧ 1 ≤ a ∧ zWfS r a b) ∨ (c.1 ∈ ([37, 38, 42, 43, 45, 47, 60, 61, 62, 124] : List Int32) ∧ 2 ≤ a ∧ zWfS r (a - 1) b)
def zHd (s : List Int32) : Int32 := s.headD 0
def zEvL (env : Nat → Int32) : List zLine → Int32
  | [] => 0
  | (none, v) :: _ => zHd (zRunS env v [])
  | (some t, v) :: r => if zHd (zRunS env t []) = 0 then zEvL env r else zHd (zRunS env v [])
def zCdL (p : Nat) : zLine → List zSt1
  | (none, v) => v ++ [(3, 0)]
  | (some t, v) => t ++ (2, nI (p + (t.length + 1 + (v.length + 1)))) :: (v ++ [(3, 0)])
def zCd : Nat → List zLine → List zSt1
  | _, [] => []
  | p, x :: r => zCdL p x ++ zCd (p + (zCdL p x).length) r
def zWfL (x : zLine) : Prop := zWfS x.2 0 1 ∧ ∀ t, x.1 = some t → zWfS t 0 1
/-- the signs lie from p on -/
def zLy (S W : Nat → Int32) (p : Nat) (c : List zSt1) : Prop := ∀ (i : Nat) (x : zSt1), c[i]? = some x → S (p + i) = x.1 ∧ W (p + i) = x.2
theorem zLy_app {S W : Nat → Int32} {p : Nat} {a b : List zSt1} (h : zLy S W p (a ++ b)) : zLy S W p a ∧ zLy S W (p + a.length) b := by
  refine ⟨fun i x hx => h i x ?_, fun i x hx => ?_⟩
  · have hi : i < a.length := (List.getElem?_eq_some_iff.mp hx).1
    rw [List.getElem?_append_left hi]; exact hx
  · have := h (a.length + i) x (by rw [List.getElem?_append_right (Nat.le_add_right _ _), Nat.add_sub_cancel_left]; exact hx)
    rw [Nat.add_assoc]; exact this
theorem zLy_cons {S W : Nat → Int32} {p : Nat} {a : zSt1} {b : List zSt1} (h : zLy S W p (a :: b)) : (S p = a.1 ∧ W p = a.2) ∧ zLy S W (p + 1) b := by
  refine ⟨h 0 a rfl, fun i x hx => ?_⟩
  have := h (i + 1) x hx
  rw [show p + 1 + i = p + (i + 1) by omega]; exact this
/-- the stack lies in a row, the top behind -/
def zStk (F : Nat → Int32) : List Int32 → Prop
  | [] => True
  | x :: r => F r.length = x ∧ zStk F r
theorem zStk_up {F : Nat → Int32} {s : List Int32} {k : Nat} {x : Int32} (h : zStk F s) (hk : s.length ≤ k) : zStk (zup F k x) s := by
  induction s with
  | nil => trivial
  | cons y r ih =>
    have hl : (y :: r).length = r.length + 1 := rfl
    exact ⟨by rw [zup_ne (by omega)]; exact h.1, ih h.2 (by omega)⟩
section S19
variable {g : zG} {l : Launch} {d : Nat} {I : Nat → Nat → Int32} {L : Nat → Nat → Int64} {fs : Nat × Nat × Option Nat} {ns nt nh h : Nat}
theorem sp_X6_clear (hd : 1 ≤ d) (hw : zLwf h) : zSp g l d 100 m_X6_clear [.ref h] (zU I L fs) (zV (fun w => w = zU (zup I h (zup (I h) 4 0)) L fs)) := by
  refine zSp_of (lv := [(0, .ref h)]) k_X6_clear rfl (Nat.le_of_ble_eq_true rfl) ?_
  refine zAloadN d_X6_clear_0 rfl rfl (q := 1) rfl ?_
  refine zIconst d_X6_clear_1 (v := 0) ic_0 (q := 2) rfl ?_
  refine zPutI d_X6_clear_2 ff_X6_22 rfl rfl rfl hw.1 (zlt4 hw) (q := 5) rfl ?_
  refine zVret d_X6_clear_5 rfl rfl ?_
  exact ⟨rfl, rfl⟩
theorem sp_X6_named (hd : 1 ≤ d) (hw : zLwf h) {k : Nat} (hk : k < 6) : zPure g l d m_X6_named [.ref h, .int (nI k)] I L fs (.int (I (h + 4) k)) := by
  refine zSp_of (lv := [(0, .ref h), (1, .int (nI k))]) k_X6_named rfl (Nat.le_of_ble_eq_true rfl) ?_
  refine zIloadN d_X6_named_0 rfl rfl (q := 1) rfl ?_
  refine zIf_lt d_X6_named_1 (tgt := 19) (q := 4) (by decide) rfl (fun h => absurd h (nI_pos (by omega))) (fun h1 => ?_)
  refine zIloadN d_X6_named_4 rfl rfl (q := 5) rfl ?_
  refine zBipush d_X6_named_5 (v := 6) bc_6 (q := 7) rfl ?_
  refine zIcmp_ge d_X6_named_7 (tgt := 19) (q := 10) (by decide) rfl (fun h => absurd h (nI_ge (b := 6) hk (by omega))) (fun h7 => ?_)
  refine zAloadN d_X6_named_10 rfl rfl (q := 11) rfl ?_
  refine zGetR d_X6_named_11 ff_X6_19 hw.1 (zlt4 hw) (zlw3 hw) (q := 14) rfl ?_
  refine zIloadN d_X6_named_14 rfl rfl (q := 15) rfl ?_
  refine zIald d_X6_named_15 hw.2.2.2.2.1 hw.2.2.2.2.2.1 rfl hk (q := 16) rfl ?_
  refine zGoto d_X6_named_16 (q := 20) (by decide) ?_
  refine zIret d_X6_named_20 rfl rfl rfl ?_
  exact zPi rfl
theorem sp_X6_truth (hd : 1 ≤ d) {c : Prop} [Decidable c] : zPure g l d m_X6_truth [.int (bi c)] I L fs (.int (bi c)) := by
  refine zSp_of (lv := [(0, .int (bi c))]) k_X6_truth rfl (Nat.le_of_ble_eq_true rfl) ?_
  refine zIloadN d_X6_truth_0 rfl rfl (q := 1) rfl ?_
  refine zIf_eq d_X6_truth_1 (tgt := 8) (q := 4) (by decide) rfl (fun h1 => ?_) (fun h1 => ?_)
  · refine zIconst d_X6_truth_8 (v := 0) ic_0 (q := 9) rfl ?_
    refine zIret d_X6_truth_9 rfl rfl rfl ?_
    exact zPi (by first | exact (bi_f (bi_0.mp h1)).symm | exact (bi_t (bi_n0.mp h1)).symm)
  · refine zIconst d_X6_truth_4 (v := 1) ic_1 (q := 5) rfl ?_
    refine zGoto d_X6_truth_5 (q := 9) (by decide) ?_
    refine zIret d_X6_truth_9 rfl rfl rfl ?_
    exact zPi (by first | exact (bi_f (bi_0.mp h1)).symm | exact (bi_t (bi_n0.mp h1)).symm)
theorem sp_truthC (hd : 1 ≤ d) {x : Int32} (hx : x = 0 ∨ x = 1) : zPure g l d m_X6_truth [.int x] I L fs (.int x) := by
  rcases hx with rfl | rfl
  · exact sp_X6_truth (c := False) hd
  · exact sp_X6_truth (c := True) hd
theorem sp_X6_joined (hd : 2 ≤ d) {t x y : Int32} : zPure g l d m_X6_joined [.int t, .int x, .int y] I L fs (.int (zJn t x y)) := by
  refine zSp_of (lv := [(0, .int t), (1, .int x), (2, .int y)]) k_X6_joined rfl (Nat.le_of_ble_eq_true rfl) ?_
  refine zIloadN d_X6_joined_0 rfl rfl (q := 1) rfl ?_
  rcases Decidable.em (t = (37 : Int32)) with s1_37 | s1_37
  · refine zLook d_X6_joined_1 (by decide) (off := 191) (by rw [s1_37]; decide) (q := 192) (by decide) ?_
    refine zIloadN d_X6_joined_192 rfl rfl (q := 193) rfl ?_
    refine zIf_ne d_X6_joined_193 (tgt := 200) (q := 196) (by decide) rfl (fun h193 => ?_) (fun h193 => ?_)
    · refine zIloadN d_X6_joined_200 rfl rfl (q := 201) rfl ?_
      refine zIloadN d_X6_joined_201 rfl rfl (q := 202) rfl ?_
      refine zIrem d_X6_joined_202 h193 (q := 203) rfl ?_
      refine zIret d_X6_joined_203 rfl rfl rfl ?_
      exact zPi (by unfold zJn bi; simp_all)
    · refine zIconst d_X6_joined_196 (v := 0) ic_0 (q := 197) rfl ?_
      refine zGoto d_X6_joined_197 (q := 203) (by decide) ?_
      refine zIret d_X6_joined_203 rfl rfl rfl ?_
      exact zPi (by unfold zJn bi; simp_all)
  rcases Decidable.em (t = (38 : Int32)) with s1_38 | s1_38
  · refine zLook d_X6_joined_1 (by decide) (off := 108) (by rw [s1_38]; decide) (q := 109) (by decide) ?_
    refine zIloadN d_X6_joined_109 rfl rfl (q := 110) rfl ?_
    refine zIf_eq d_X6_joined_110 (tgt := 121) (q := 113) (by decide) rfl (fun h110 => ?_) (fun h110 => ?_)
    · refine zIconst d_X6_joined_121 (v := 0) ic_0 (q := 122) rfl ?_
      refine zCallSP d_X6_joined_122 ml_X6_51 k_X6_truth kt_X6_truth (sp_truthC (d := d - 1) (by omega) (by decide)) rfl rfl (Nat.le_of_ble_eq_true rfl) (by decide) (by omega) zns100 (q := 125) rfl ?_
      refine zIret d_X6_joined_125 rfl rfl rfl ?_
      exact zPi (by unfold zJn bi; simp_all)
    · refine zIloadN d_X6_joined_113 rfl rfl (q := 114) rfl ?_
      refine zIf_eq d_X6_joined_114 (tgt := 121) (q := 117) (by decide) rfl (fun h114 => ?_) (fun h114 => ?_)
      · refine zIconst d_X6_joined_121 (v := 0) ic_0 (q := 122) rfl ?_
        refine zCallSP d_X6_joined_122 ml_X6_51 k_X6_truth kt_X6_truth (sp_truthC (d := d - 1) (by omega) (by decide)) rfl rfl (Nat.le_of_ble_eq_true rfl) (by decide) (by omega) zns100 (q := 125) rfl ?_
        refine zIret d_X6_joined_125 rfl rfl rfl ?_
        exact zPi (by unfold zJn bi; simp_all)
      · refine zIconst d_X6_joined_117 (v := 1) ic_1 (q := 118) rfl ?_
        refine zGoto d_X6_joined_118 (q := 122) (by decide) ?_
        refine zCallSP d_X6_joined_122 ml_X6_51 k_X6_truth kt_X6_truth (sp_truthC (d := d - 1) (by omega) (by decide)) rfl rfl (Nat.le_of_ble_eq_true rfl) (by decide) (by omega) zns100 (q := 125) rfl ?_
        refine zIret d_X6_joined_125 rfl rfl rfl ?_
        exact zPi (by unfold zJn bi; simp_all)
  rcases Decidable.em (t = (42 : Int32)) with s1_42 | s1_42
  · refine zLook d_X6_joined_1 (by decide) (off := 175) (by rw [s1_42]; decide) (q := 176) (by decide) ?_
    refine zIloadN d_X6_joined_176 rfl rfl (q := 177) rfl ?_
    refine zIloadN d_X6_joined_177 rfl rfl (q := 178) rfl ?_
    refine zImul d_X6_joined_178 (q := 179) rfl ?_
    refine zIret d_X6_joined_179 rfl rfl rfl ?_
    exact zPi (by unfold zJn bi; simp_all)
  rcases Decidable.em (t = (43 : Int32)) with s1_43 | s1_43
  · refine zLook d_X6_joined_1 (by decide) (off := 167) (by rw [s1_43]; decide) (q := 168) (by decide) ?_
    refine zIloadN d_X6_joined_168 rfl rfl (q := 169) rfl ?_
    refine zIloadN d_X6_joined_169 rfl rfl (q := 170) rfl ?_
    refine zIadd d_X6_joined_170 (q := 171) rfl ?_
    refine zIret d_X6_joined_171 rfl rfl rfl ?_
    exact zPi (by unfold zJn bi; simp_all)
  rcases Decidable.em (t = (45 : Int32)) with s1_45 | s1_45
  · refine zLook d_X6_joined_1 (by decide) (off := 171) (by rw [s1_45]; decide) (q := 172) (by decide) ?_
    refine zIloadN d_X6_joined_172 rfl rfl (q := 173) rfl ?_
    refine zIloadN d_X6_joined_173 rfl rfl (q := 174) rfl ?_
    refine zIsub d_X6_joined_174 (q := 175) rfl ?_
    refine zIret d_X6_joined_175 rfl rfl rfl ?_
    exact zPi (by unfold zJn bi; simp_all)
  rcases Decidable.em (t = (47 : Int32)) with s1_47 | s1_47
  · refine zLook d_X6_joined_1 (by decide) (off := 179) (by rw [s1_47]; decide) (q := 180) (by decide) ?_
    refine zIloadN d_X6_joined_180 rfl rfl (q := 181) rfl ?_
    refine zIf_ne d_X6_joined_181 (tgt := 188) (q := 184) (by decide) rfl (fun h181 => ?_) (fun h181 => ?_)
    · refine zIloadN d_X6_joined_188 rfl rfl (q := 189) rfl ?_
      refine zIloadN d_X6_joined_189 rfl rfl (q := 190) rfl ?_
      refine zIdiv d_X6_joined_190 h181 (q := 191) rfl ?_
      refine zIret d_X6_joined_191 rfl rfl rfl ?_
      exact zPi (by unfold zJn bi; simp_all)
    · refine zIconst d_X6_joined_184 (v := 0) ic_0 (q := 185) rfl ?_
      refine zGoto d_X6_joined_185 (q := 191) (by decide) ?_
      refine zIret d_X6_joined_191 rfl rfl rfl ?_
      exact zPi (by unfold zJn bi; simp_all)
  rcases Decidable.em (t = (60 : Int32)) with s1_60 | s1_60
  · refine zLook d_X6_joined_1 (by decide) (off := 125) (by rw [s1_60]; decide) (q := 126) (by decide) ?_
    refine zIloadN d_X6_joined_126 rfl rfl (q := 127) rfl ?_
    refine zIloadN d_X6_joined_127 rfl rfl (q := 128) rfl ?_
    refine zIcmp_ge d_X6_joined_128 (tgt := 135) (q := 131) (by decide) rfl (fun h128 => ?_) (fun h128 => ?_)
    · refine zIconst d_X6_joined_135 (v := 0) ic_0 (q := 136) rfl ?_
      refine zCallSP d_X6_joined_136 ml_X6_51 k_X6_truth kt_X6_truth (sp_truthC (d := d - 1) (by omega) (by decide)) rfl rfl (Nat.le_of_ble_eq_true rfl) (by decide) (by omega) zns100 (q := 139) rfl ?_
      refine zIret d_X6_joined_139 rfl rfl rfl ?_
      exact zPi (by unfold zJn bi; simp_all)
    · refine zIconst d_X6_joined_131 (v := 1) ic_1 (q := 132) rfl ?_
      refine zGoto d_X6_joined_132 (q := 136) (by decide) ?_
      refine zCallSP d_X6_joined_136 ml_X6_51 k_X6_truth kt_X6_truth (sp_truthC (d := d - 1) (by omega) (by decide)) rfl rfl (Nat.le_of_ble_eq_true rfl) (by decide) (by omega) zns100 (q := 139) rfl ?_
      refine zIret d_X6_joined_139 rfl rfl rfl ?_
      exact zPi (by unfold zJn bi; simp_all)
  rcases Decidable.em (t = (61 : Int32)) with s1_61 | s1_61
  · refine zLook d_X6_joined_1 (by decide) (off := 139) (by rw [s1_61]; decide) (q := 140) (by decide) ?_
    refine zIloadN d_X6_joined_140 rfl rfl (q := 141) rfl ?_
    refine zIloadN d_X6_joined_141 rfl rfl (q := 142) rfl ?_
    refine zIcmp_ne d_X6_joined_142 (tgt := 149) (q := 145) (by decide) rfl (fun h142 => ?_) (fun h142 => ?_)
    · refine zIconst d_X6_joined_149 (v := 0) ic_0 (q := 150) rfl ?_
      refine zCallSP d_X6_joined_150 ml_X6_51 k_X6_truth kt_X6_truth (sp_truthC (d := d - 1) (by omega) (by decide)) rfl rfl (Nat.le_of_ble_eq_true rfl) (by decide) (by omega) zns100 (q := 153) rfl ?_
      refine zIret d_X6_joined_153 rfl rfl rfl ?_
      exact zPi (by unfold zJn bi; simp_all)
    · refine zIconst d_X6_joined_145 (v := 1) ic_1 (q := 146) rfl ?_
      refine zGoto d_X6_joined_146 (q := 150) (by decide) ?_
      refine zCallSP d_X6_joined_150 ml_X6_51 k_X6_truth kt_X6_truth (sp_truthC (d := d - 1) (by omega) (by decide)) rfl rfl (Nat.le_of_ble_eq_true rfl) (by decide) (by omega) zns100 (q := 153) rfl ?_
      refine zIret d_X6_joined_153 rfl rfl rfl ?_
      exact zPi (by unfold zJn bi; simp_all)
  rcases Decidable.em (t = (62 : Int32)) with s1_62 | s1_62
  · refine zLook d_X6_joined_1 (by decide) (off := 153) (by rw [s1_62]; decide) (q := 154) (by decide) ?_
    refine zIloadN d_X6_joined_154 rfl rfl (q := 155) rfl ?_
    refine zIloadN d_X6_joined_155 rfl rfl (q := 156) rfl ?_
    refine zIcmp_le d_X6_joined_156 (tgt := 163) (q := 159) (by decide) rfl (fun h156 => ?_) (fun h156 => ?_)
    · refine zIconst d_X6_joined_163 (v := 0) ic_0 (q := 164) rfl ?_
      refine zCallSP d_X6_joined_164 ml_X6_51 k_X6_truth kt_X6_truth (sp_truthC (d := d - 1) (by omega) (by decide)) rfl rfl (Nat.le_of_ble_eq_true rfl) (by decide) (by omega) zns100 (q := 167) rfl ?_
      refine zIret d_X6_joined_167 rfl rfl rfl ?_
      exact zPi (by unfold zJn bi; simp_all)
    · refine zIconst d_X6_joined_159 (v := 1) ic_1 (q := 160) rfl ?_
      refine zGoto d_X6_joined_160 (q := 164) (by decide) ?_
      refine zCallSP d_X6_joined_164 ml_X6_51 k_X6_truth kt_X6_truth (sp_truthC (d := d - 1) (by omega) (by decide)) rfl rfl (Nat.le_of_ble_eq_true rfl) (by decide) (by omega) zns100 (q := 167) rfl ?_
      refine zIret d_X6_joined_167 rfl rfl rfl ?_
      exact zPi (by unfold zJn bi; simp_all)
  rcases Decidable.em (t = (124 : Int32)) with s1_124 | s1_124
  · refine zLook d_X6_joined_1 (by decide) (off := 91) (by rw [s1_124]; decide) (q := 92) (by decide) ?_
    refine zIloadN d_X6_joined_92 rfl rfl (q := 93) rfl ?_
    refine zIf_ne d_X6_joined_93 (tgt := 100) (q := 96) (by decide) rfl (fun h93 => ?_) (fun h93 => ?_)
    · refine zIconst d_X6_joined_100 (v := 1) ic_1 (q := 101) rfl ?_
      refine zGoto d_X6_joined_101 (q := 105) (by decide) ?_
      refine zCallSP d_X6_joined_105 ml_X6_51 k_X6_truth kt_X6_truth (sp_truthC (d := d - 1) (by omega) (by decide)) rfl rfl (Nat.le_of_ble_eq_true rfl) (by decide) (by omega) zns100 (q := 108) rfl ?_
      refine zIret d_X6_joined_108 rfl rfl rfl ?_
      exact zPi (by unfold zJn bi; simp_all)
    · refine zIloadN d_X6_joined_96 rfl rfl (q := 97) rfl ?_
      refine zIf_eq d_X6_joined_97 (tgt := 104) (q := 100) (by decide) rfl (fun h97 => ?_) (fun h97 => ?_)
      · refine zIconst d_X6_joined_104 (v := 0) ic_0 (q := 105) rfl ?_
        refine zCallSP d_X6_joined_105 ml_X6_51 k_X6_truth kt_X6_truth (sp_truthC (d := d - 1) (by omega) (by decide)) rfl rfl (Nat.le_of_ble_eq_true rfl) (by decide) (by omega) zns100 (q := 108) rfl ?_
        refine zIret d_X6_joined_108 rfl rfl rfl ?_
        exact zPi (by unfold zJn bi; simp_all)
      · refine zIconst d_X6_joined_100 (v := 1) ic_1 (q := 101) rfl ?_
        refine zGoto d_X6_joined_101 (q := 105) (by decide) ?_
        refine zCallSP d_X6_joined_105 ml_X6_51 k_X6_truth kt_X6_truth (sp_truthC (d := d - 1) (by omega) (by decide)) rfl rfl (Nat.le_of_ble_eq_true rfl) (by decide) (by omega) zns100 (q := 108) rfl ?_
        refine zIret d_X6_joined_108 rfl rfl rfl ?_
        exact zPi (by unfold zJn bi; simp_all)
  refine zLook d_X6_joined_1 (by decide) (off := 203) (by show Op.lookupswitch.offset [(37, 191), (38, 108), (42, 175), (43, 167), (45, 171), (47, 179), (60, 125), (61, 139), (62, 153), (124, 91)] 203 _ = _; rw [lv_osw s1_37 (by decide), lv_osw s1_38 (by decide), lv_osw s1_42 (by decide), lv_osw s1_43 (by decide), lv_osw s1_45 (by decide), lv_osw s1_47 (by decide), lv_osw s1_60 (by decide), lv_osw s1_61 (by decide), lv_osw s1_62 (by decide), lv_osw s1_124 (by decide)]; rfl) (q := 204) (by decide) ?_
  refine zIconst d_X6_joined_204 (v := 0) ic_0 (q := 205) rfl ?_
  refine zIret d_X6_joined_205 rfl rfl rfl ?_
  exact zPi (by unfold zJn bi; simp_all)
theorem sp_X6_withoutText (hd : 1 ≤ d) (hw : zLwf h) : zPure g l d m_X6_withoutText [.ref h] I L fs (.int (6 + I (h + 4) 0 / 2 + I (h + 4) 1 / 3 - I (h + 4) 2 / 3 - I (h + 4) 3 / 2)) := by
  refine zSp_of (lv := [(0, .ref h)]) k_X6_withoutText rfl (Nat.le_of_ble_eq_true rfl) ?_
  refine zBipush d_X6_withoutText_0 (v := 6) bc_6 (q := 2) rfl ?_
  refine zAloadN d_X6_withoutText_2 rfl rfl (q := 3) rfl ?_
  refine zGetR d_X6_withoutText_3 ff_X6_19 hw.1 (zlt4 hw) (zlw3 hw) (q := 6) rfl ?_
  refine zIconst d_X6_withoutText_6 (v := 0) ic_0 (q := 7) rfl ?_
  refine zIald d_X6_withoutText_7 hw.2.2.2.2.1 hw.2.2.2.2.2.1 (j := 0) rfl (by decide) (q := 8) rfl ?_
  refine zIconst d_X6_withoutText_8 (v := 2) ic_2 (q := 9) rfl ?_
  refine zIdiv d_X6_withoutText_9 (by decide) (q := 10) rfl ?_
  refine zIadd d_X6_withoutText_10 (q := 11) rfl ?_
  refine zAloadN d_X6_withoutText_11 rfl rfl (q := 12) rfl ?_
  refine zGetR d_X6_withoutText_12 ff_X6_19 hw.1 (zlt4 hw) (zlw3 hw) (q := 15) rfl ?_
  refine zIconst d_X6_withoutText_15 (v := 1) ic_1 (q := 16) rfl ?_
  refine zIald d_X6_withoutText_16 hw.2.2.2.2.1 hw.2.2.2.2.2.1 (j := 1) rfl (by decide) (q := 17) rfl ?_
  refine zIconst d_X6_withoutText_17 (v := 3) ic_3 (q := 18) rfl ?_
  refine zIdiv d_X6_withoutText_18 (by decide) (q := 19) rfl ?_
  refine zIadd d_X6_withoutText_19 (q := 20) rfl ?_
  refine zAloadN d_X6_withoutText_20 rfl rfl (q := 21) rfl ?_
  refine zGetR d_X6_withoutText_21 ff_X6_19 hw.1 (zlt4 hw) (zlw3 hw) (q := 24) rfl ?_
  refine zIconst d_X6_withoutText_24 (v := 2) ic_2 (q := 25) rfl ?_
  refine zIald d_X6_withoutText_25 hw.2.2.2.2.1 hw.2.2.2.2.2.1 (j := 2) rfl (by decide) (q := 26) rfl ?_
  refine zIconst d_X6_withoutText_26 (v := 3) ic_3 (q := 27) rfl ?_
  refine zIdiv d_X6_withoutText_27 (by decide) (q := 28) rfl ?_
  refine zIsub d_X6_withoutText_28 (q := 29) rfl ?_
  refine zAloadN d_X6_withoutText_29 rfl rfl (q := 30) rfl ?_
  refine zGetR d_X6_withoutText_30 ff_X6_19 hw.1 (zlt4 hw) (zlw3 hw) (q := 33) rfl ?_
  refine zIconst d_X6_withoutText_33 (v := 3) ic_3 (q := 34) rfl ?_
  refine zIald d_X6_withoutText_34 hw.2.2.2.2.1 hw.2.2.2.2.2.1 (j := 3) rfl (by decide) (q := 35) rfl ?_
  refine zIconst d_X6_withoutText_35 (v := 2) ic_2 (q := 36) rfl ?_
  refine zIdiv d_X6_withoutText_36 (by decide) (q := 37) rfl ?_
  refine zIsub d_X6_withoutText_37 (q := 38) rfl ?_
  refine zIret d_X6_withoutText_38 rfl rfl rfl ?_
  exact zPi rfl
end S19
end
