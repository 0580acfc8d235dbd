section
-- ===== PART A: goes FIRST, ahead of the names: the tables' words, and 'selects' of the private methods out of them =====
/-- a private method of a class that the tables say can be made, by its rows of tables_1 -/
def lw_okq (q : MethodName × Nat) : Prop := (q.1.cls ≠ "java/lang/invoke/MethodHandle" ∧ q.1.cls ≠ "java/lang/invoke/VarHandle") ∧ Cond.instantiable q.1.cls q.2 ∈ tables_1 ∧ Cond.privateMethod q.1 ∈ tables_1 ∧ Cond.instanceMethod q.1 ∈ tables_1
theorem lw_p0 : lw_okq (⟨"CellFormatter$Scanner", "scanToken", "(I)I"⟩, 3) := ⟨⟨by decide +kernel, by decide +kernel⟩, List.mem_of_getElem? (i := 48) (by decide +kernel), List.mem_of_getElem? (i := 299) (by decide +kernel), List.mem_of_getElem? (i := 300) (by decide +kernel)⟩
theorem lw_p1 : lw_okq (⟨"CellFormatter$Scanner", "at", "(I)C"⟩, 3) := ⟨⟨by decide +kernel, by decide +kernel⟩, List.mem_of_getElem? (i := 48) (by decide +kernel), List.mem_of_getElem? (i := 303) (by decide +kernel), List.mem_of_getElem? (i := 304) (by decide +kernel)⟩
theorem lw_p2 : lw_okq (⟨"CellFormatter$Scanner", "scanQuoted", "(I)I"⟩, 3) := ⟨⟨by decide +kernel, by decide +kernel⟩, List.mem_of_getElem? (i := 48) (by decide +kernel), List.mem_of_getElem? (i := 307) (by decide +kernel), List.mem_of_getElem? (i := 308) (by decide +kernel)⟩
theorem lw_p3 : lw_okq (⟨"CellFormatter$Scanner", "scanEscaped", "(I)I"⟩, 3) := ⟨⟨by decide +kernel, by decide +kernel⟩, List.mem_of_getElem? (i := 48) (by decide +kernel), List.mem_of_getElem? (i := 315) (by decide +kernel), List.mem_of_getElem? (i := 316) (by decide +kernel)⟩
theorem lw_p4 : lw_okq (⟨"CellFormatter$Scanner", "scanBracket", "(I)I"⟩, 3) := ⟨⟨by decide +kernel, by decide +kernel⟩, List.mem_of_getElem? (i := 48) (by decide +kernel), List.mem_of_getElem? (i := 319) (by decide +kernel), List.mem_of_getElem? (i := 320) (by decide +kernel)⟩
theorem lw_p5 : lw_okq (⟨"CellFormatter$Scanner", "scanCondition", "(I)I"⟩, 3) := ⟨⟨by decide +kernel, by decide +kernel⟩, List.mem_of_getElem? (i := 48) (by decide +kernel), List.mem_of_getElem? (i := 408) (by decide +kernel), List.mem_of_getElem? (i := 409) (by decide +kernel)⟩
theorem lw_p6 : lw_okq (⟨"CellFormatter$Scanner", "testAt", "(I)I"⟩, 3) := ⟨⟨by decide +kernel, by decide +kernel⟩, List.mem_of_getElem? (i := 48) (by decide +kernel), List.mem_of_getElem? (i := 412) (by decide +kernel), List.mem_of_getElem? (i := 413) (by decide +kernel)⟩
theorem lw_p7 : lw_okq (⟨"CellFormatter$Scanner", "isDigit", "(C)Z"⟩, 3) := ⟨⟨by decide +kernel, by decide +kernel⟩, List.mem_of_getElem? (i := 48) (by decide +kernel), List.mem_of_getElem? (i := 416) (by decide +kernel), List.mem_of_getElem? (i := 417) (by decide +kernel)⟩
theorem lw_p8 : lw_okq (⟨"CellFormatter$Scanner", "scanExponent", "(I)I"⟩, 3) := ⟨⟨by decide +kernel, by decide +kernel⟩, List.mem_of_getElem? (i := 48) (by decide +kernel), List.mem_of_getElem? (i := 420) (by decide +kernel), List.mem_of_getElem? (i := 421) (by decide +kernel)⟩
theorem lw_p9 : lw_okq (⟨"CellFormatter$Scanner", "scanMeridiem", "(I)I"⟩, 3) := ⟨⟨by decide +kernel, by decide +kernel⟩, List.mem_of_getElem? (i := 48) (by decide +kernel), List.mem_of_getElem? (i := 424) (by decide +kernel), List.mem_of_getElem? (i := 425) (by decide +kernel)⟩
theorem lw_p10 : lw_okq (⟨"CellFormatter$Scanner", "scanField", "(I)I"⟩, 3) := ⟨⟨by decide +kernel, by decide +kernel⟩, List.mem_of_getElem? (i := 48) (by decide +kernel), List.mem_of_getElem? (i := 451) (by decide +kernel), List.mem_of_getElem? (i := 452) (by decide +kernel)⟩
theorem lw_p11 : lw_okq (⟨"CellFormatter$Scanner", "isFieldLength", "(CI)Z"⟩, 3) := ⟨⟨by decide +kernel, by decide +kernel⟩, List.mem_of_getElem? (i := 48) (by decide +kernel), List.mem_of_getElem? (i := 455) (by decide +kernel), List.mem_of_getElem? (i := 456) (by decide +kernel)⟩
theorem lw_p12 : lw_okq (⟨"CellFormatter$Scanner", "scanSingle", "(C)I"⟩, 3) := ⟨⟨by decide +kernel, by decide +kernel⟩, List.mem_of_getElem? (i := 48) (by decide +kernel), List.mem_of_getElem? (i := 459) (by decide +kernel), List.mem_of_getElem? (i := 460) (by decide +kernel)⟩
theorem lw_p13 : lw_okq (⟨"CellFormatter", "readParts", "(I)I"⟩, 12) := ⟨⟨by decide +kernel, by decide +kernel⟩, List.mem_of_getElem? (i := 18) (by decide +kernel), List.mem_of_getElem? (i := 473) (by decide +kernel), List.mem_of_getElem? (i := 474) (by decide +kernel)⟩
theorem lw_p14 : lw_okq (⟨"CellFormatter$Section", "countFields", "(LCellFormatter$Tokens;)I"⟩, 15) := ⟨⟨by decide +kernel, by decide +kernel⟩, List.mem_of_getElem? (i := 65) (by decide +kernel), List.mem_of_getElem? (i := 486) (by decide +kernel), List.mem_of_getElem? (i := 487) (by decide +kernel)⟩
theorem lw_p15 : lw_okq (⟨"CellFormatter$Section", "readCondition", "(LCellFormatter$Tokens;)Z"⟩, 15) := ⟨⟨by decide +kernel, by decide +kernel⟩, List.mem_of_getElem? (i := 65) (by decide +kernel), List.mem_of_getElem? (i := 494) (by decide +kernel), List.mem_of_getElem? (i := 495) (by decide +kernel)⟩
def lw_privs_1 : List (MethodName × Nat) := [(⟨"CellFormatter$Scanner", "scanToken", "(I)I"⟩, 3), (⟨"CellFormatter$Scanner", "at", "(I)C"⟩, 3), (⟨"CellFormatter$Scanner", "scanQuoted", "(I)I"⟩, 3), (⟨"CellFormatter$Scanner", "scanEscaped", "(I)I"⟩, 3), (⟨"CellFormatter$Scanner", "scanBracket", "(I)I"⟩, 3), (⟨"CellFormatter$Scanner", "scanCondition", "(I)I"⟩, 3), (⟨"CellFormatter$Scanner", "testAt", "(I)I"⟩, 3), (⟨"CellFormatter$Scanner", "isDigit", "(C)Z"⟩, 3), (⟨"CellFormatter$Scanner", "scanExponent", "(I)I"⟩, 3), (⟨"CellFormatter$Scanner", "scanMeridiem", "(I)I"⟩, 3), (⟨"CellFormatter$Scanner", "scanField", "(I)I"⟩, 3), (⟨"CellFormatter$Scanner", "isFieldLength", "(CI)Z"⟩, 3), (⟨"CellFormatter$Scanner", "scanSingle", "(C)I"⟩, 3), (⟨"CellFormatter", "readParts", "(I)I"⟩, 12), (⟨"CellFormatter$Section", "countFields", "(LCellFormatter$Tokens;)I"⟩, 15), (⟨"CellFormatter$Section", "readCondition", "(LCellFormatter$Tokens;)Z"⟩, 15)]
theorem lw_r1 : ∀ q ∈ lw_privs_1, lw_okq q := List.forall_mem_cons.mpr ⟨lw_p0, List.forall_mem_cons.mpr ⟨lw_p1, List.forall_mem_cons.mpr ⟨lw_p2, List.forall_mem_cons.mpr ⟨lw_p3, List.forall_mem_cons.mpr ⟨lw_p4, List.forall_mem_cons.mpr ⟨lw_p5, List.forall_mem_cons.mpr ⟨lw_p6, List.forall_mem_cons.mpr ⟨lw_p7, List.forall_mem_cons.mpr ⟨lw_p8, List.forall_mem_cons.mpr ⟨lw_p9, List.forall_mem_cons.mpr ⟨lw_p10, List.forall_mem_cons.mpr ⟨lw_p11, List.forall_mem_cons.mpr ⟨lw_p12, List.forall_mem_cons.mpr ⟨lw_p13, List.forall_mem_cons.mpr ⟨lw_p14, List.forall_mem_cons.mpr ⟨lw_p15, fun _ h => absurd h List.not_mem_nil⟩⟩⟩⟩⟩⟩⟩⟩⟩⟩⟩⟩⟩⟩⟩⟩
theorem lw_p16 : lw_okq (⟨"CellFormatter$Section", "readNumber", "(LCellFormatter$Tokens;)Z"⟩, 15) := ⟨⟨by decide +kernel, by decide +kernel⟩, List.mem_of_getElem? (i := 65) (by decide +kernel), List.mem_of_getElem? (i := 508) (by decide +kernel), List.mem_of_getElem? (i := 509) (by decide +kernel)⟩
theorem lw_p17 : lw_okq (⟨"CellFormatter$Section", "readCommas", "(LCellFormatter$Tokens;)Z"⟩, 15) := ⟨⟨by decide +kernel, by decide +kernel⟩, List.mem_of_getElem? (i := 65) (by decide +kernel), List.mem_of_getElem? (i := 517) (by decide +kernel), List.mem_of_getElem? (i := 518) (by decide +kernel)⟩
theorem lw_p18 : lw_okq (⟨"CellFormatter$Section", "readFields", "(LCellFormatter$Tokens;)V"⟩, 15) := ⟨⟨by decide +kernel, by decide +kernel⟩, List.mem_of_getElem? (i := 65) (by decide +kernel), List.mem_of_getElem? (i := 525) (by decide +kernel), List.mem_of_getElem? (i := 526) (by decide +kernel)⟩
theorem lw_p19 : lw_okq (⟨"CellFormatter$Section", "letterBefore", "(LCellFormatter$Tokens;I)I"⟩, 15) := ⟨⟨by decide +kernel, by decide +kernel⟩, List.mem_of_getElem? (i := 65) (by decide +kernel), List.mem_of_getElem? (i := 529) (by decide +kernel), List.mem_of_getElem? (i := 530) (by decide +kernel)⟩
theorem lw_p20 : lw_okq (⟨"CellFormatter$Section", "letterBehind", "(LCellFormatter$Tokens;I)I"⟩, 15) := ⟨⟨by decide +kernel, by decide +kernel⟩, List.mem_of_getElem? (i := 65) (by decide +kernel), List.mem_of_getElem? (i := 533) (by decide +kernel), List.mem_of_getElem? (i := 534) (by decide +kernel)⟩
theorem lw_p21 : lw_okq (⟨"CellFormatter$Section", "hasNumberMarks", "(LCellFormatter$Tokens;)Z"⟩, 15) := ⟨⟨by decide +kernel, by decide +kernel⟩, List.mem_of_getElem? (i := 65) (by decide +kernel), List.mem_of_getElem? (i := 541) (by decide +kernel), List.mem_of_getElem? (i := 542) (by decide +kernel)⟩
theorem lw_p22 : lw_okq (⟨"CellFormatter", "choosePart", "(J)I"⟩, 12) := ⟨⟨by decide +kernel, by decide +kernel⟩, List.mem_of_getElem? (i := 18) (by decide +kernel), List.mem_of_getElem? (i := 572) (by decide +kernel), List.mem_of_getElem? (i := 573) (by decide +kernel)⟩
theorem lw_p23 : lw_okq (⟨"CellFormatter", "chooseByCondition", "(J)I"⟩, 12) := ⟨⟨by decide +kernel, by decide +kernel⟩, List.mem_of_getElem? (i := 18) (by decide +kernel), List.mem_of_getElem? (i := 576) (by decide +kernel), List.mem_of_getElem? (i := 577) (by decide +kernel)⟩
theorem lw_p24 : lw_okq (⟨"CellFormatter", "writeBy", "(IJ)Z"⟩, 12) := ⟨⟨by decide +kernel, by decide +kernel⟩, List.mem_of_getElem? (i := 18) (by decide +kernel), List.mem_of_getElem? (i := 585) (by decide +kernel), List.mem_of_getElem? (i := 586) (by decide +kernel)⟩
theorem lw_p25 : lw_okq (⟨"CellFormatter$MomentWriter", "roundToSeconds", "(J)V"⟩, 4) := ⟨⟨by decide +kernel, by decide +kernel⟩, List.mem_of_getElem? (i := 220) (by decide +kernel), List.mem_of_getElem? (i := 593) (by decide +kernel), List.mem_of_getElem? (i := 594) (by decide +kernel)⟩
theorem lw_p26 : lw_okq (⟨"CellFormatter$Calendar", "setDate", "(I)V"⟩, 5) := ⟨⟨by decide +kernel, by decide +kernel⟩, List.mem_of_getElem? (i := 134) (by decide +kernel), List.mem_of_getElem? (i := 615) (by decide +kernel), List.mem_of_getElem? (i := 616) (by decide +kernel)⟩
theorem lw_p27 : lw_okq (⟨"CellFormatter$MomentWriter", "writeToken", "(LCellFormatter$Tokens;IZ)V"⟩, 4) := ⟨⟨by decide +kernel, by decide +kernel⟩, List.mem_of_getElem? (i := 220) (by decide +kernel), List.mem_of_getElem? (i := 630) (by decide +kernel), List.mem_of_getElem? (i := 631) (by decide +kernel)⟩
theorem lw_p28 : lw_okq (⟨"CellFormatter$MomentWriter", "writeElapsed", "(I)V"⟩, 4) := ⟨⟨by decide +kernel, by decide +kernel⟩, List.mem_of_getElem? (i := 220) (by decide +kernel), List.mem_of_getElem? (i := 640) (by decide +kernel), List.mem_of_getElem? (i := 641) (by decide +kernel)⟩
theorem lw_p29 : lw_okq (⟨"CellFormatter$MomentWriter", "hour", "()I"⟩, 4) := ⟨⟨by decide +kernel, by decide +kernel⟩, List.mem_of_getElem? (i := 220) (by decide +kernel), List.mem_of_getElem? (i := 661) (by decide +kernel), List.mem_of_getElem? (i := 662) (by decide +kernel)⟩
theorem lw_p30 : lw_okq (⟨"CellFormatter$MomentWriter", "writeField", "(IIZ)V"⟩, 4) := ⟨⟨by decide +kernel, by decide +kernel⟩, List.mem_of_getElem? (i := 220) (by decide +kernel), List.mem_of_getElem? (i := 666) (by decide +kernel), List.mem_of_getElem? (i := 667) (by decide +kernel)⟩
theorem lw_p31 : lw_okq (⟨"CellFormatter$MomentWriter", "numberOf", "(IIZ)I"⟩, 4) := ⟨⟨by decide +kernel, by decide +kernel⟩, List.mem_of_getElem? (i := 220) (by decide +kernel), List.mem_of_getElem? (i := 670) (by decide +kernel), List.mem_of_getElem? (i := 671) (by decide +kernel)⟩
def lw_privs_2 : List (MethodName × Nat) := [(⟨"CellFormatter$Section", "readNumber", "(LCellFormatter$Tokens;)Z"⟩, 15), (⟨"CellFormatter$Section", "readCommas", "(LCellFormatter$Tokens;)Z"⟩, 15), (⟨"CellFormatter$Section", "readFields", "(LCellFormatter$Tokens;)V"⟩, 15), (⟨"CellFormatter$Section", "letterBefore", "(LCellFormatter$Tokens;I)I"⟩, 15), (⟨"CellFormatter$Section", "letterBehind", "(LCellFormatter$Tokens;I)I"⟩, 15), (⟨"CellFormatter$Section", "hasNumberMarks", "(LCellFormatter$Tokens;)Z"⟩, 15), (⟨"CellFormatter", "choosePart", "(J)I"⟩, 12), (⟨"CellFormatter", "chooseByCondition", "(J)I"⟩, 12), (⟨"CellFormatter", "writeBy", "(IJ)Z"⟩, 12), (⟨"CellFormatter$MomentWriter", "roundToSeconds", "(J)V"⟩, 4), (⟨"CellFormatter$Calendar", "setDate", "(I)V"⟩, 5), (⟨"CellFormatter$MomentWriter", "writeToken", "(LCellFormatter$Tokens;IZ)V"⟩, 4), (⟨"CellFormatter$MomentWriter", "writeElapsed", "(I)V"⟩, 4), (⟨"CellFormatter$MomentWriter", "hour", "()I"⟩, 4), (⟨"CellFormatter$MomentWriter", "writeField", "(IIZ)V"⟩, 4), (⟨"CellFormatter$MomentWriter", "numberOf", "(IIZ)I"⟩, 4)]
theorem lw_r2 : ∀ q ∈ lw_privs_2, lw_okq q := List.forall_mem_cons.mpr ⟨lw_p16, List.forall_mem_cons.mpr ⟨lw_p17, List.forall_mem_cons.mpr ⟨lw_p18, List.forall_mem_cons.mpr ⟨lw_p19, List.forall_mem_cons.mpr ⟨lw_p20, List.forall_mem_cons.mpr ⟨lw_p21, List.forall_mem_cons.mpr ⟨lw_p22, List.forall_mem_cons.mpr ⟨lw_p23, List.forall_mem_cons.mpr ⟨lw_p24, List.forall_mem_cons.mpr ⟨lw_p25, List.forall_mem_cons.mpr ⟨lw_p26, List.forall_mem_cons.mpr ⟨lw_p27, List.forall_mem_cons.mpr ⟨lw_p28, List.forall_mem_cons.mpr ⟨lw_p29, List.forall_mem_cons.mpr ⟨lw_p30, List.forall_mem_cons.mpr ⟨lw_p31, fun _ h => absurd h List.not_mem_nil⟩⟩⟩⟩⟩⟩⟩⟩⟩⟩⟩⟩⟩⟩⟩⟩
theorem lw_p32 : lw_okq (⟨"CellFormatter$MomentWriter", "writeName", "(Ljava/lang/String;I)V"⟩, 4) := ⟨⟨by decide +kernel, by decide +kernel⟩, List.mem_of_getElem? (i := 220) (by decide +kernel), List.mem_of_getElem? (i := 675) (by decide +kernel), List.mem_of_getElem? (i := 676) (by decide +kernel)⟩
theorem lw_p33 : lw_okq (⟨"CellFormatter$NumberWriter", "prepare", "(LCellFormatter$Section;J)V"⟩, 7) := ⟨⟨by decide +kernel, by decide +kernel⟩, List.mem_of_getElem? (i := 179) (by decide +kernel), List.mem_of_getElem? (i := 689) (by decide +kernel), List.mem_of_getElem? (i := 690) (by decide +kernel)⟩
theorem lw_p34 : lw_okq (⟨"CellFormatter$NumberWriter", "writePlace", "(LCellFormatter$Section;II)V"⟩, 7) := ⟨⟨by decide +kernel, by decide +kernel⟩, List.mem_of_getElem? (i := 179) (by decide +kernel), List.mem_of_getElem? (i := 729) (by decide +kernel), List.mem_of_getElem? (i := 730) (by decide +kernel)⟩
theorem lw_p35 : lw_okq (⟨"CellFormatter$NumberWriter", "writeIntegerPlace", "(LCellFormatter$Decimal;IIZZ)V"⟩, 7) := ⟨⟨by decide +kernel, by decide +kernel⟩, List.mem_of_getElem? (i := 179) (by decide +kernel), List.mem_of_getElem? (i := 733) (by decide +kernel), List.mem_of_getElem? (i := 734) (by decide +kernel)⟩
theorem lw_p36 : lw_okq (⟨"CellFormatter$NumberWriter", "writeDigit", "(LCellFormatter$Decimal;IZ)V"⟩, 7) := ⟨⟨by decide +kernel, by decide +kernel⟩, List.mem_of_getElem? (i := 179) (by decide +kernel), List.mem_of_getElem? (i := 738) (by decide +kernel), List.mem_of_getElem? (i := 739) (by decide +kernel)⟩
theorem lw_p37 : lw_okq (⟨"CellFormatter$NumberWriter", "writeFractionPlace", "(II)V"⟩, 7) := ⟨⟨by decide +kernel, by decide +kernel⟩, List.mem_of_getElem? (i := 179) (by decide +kernel), List.mem_of_getElem? (i := 747) (by decide +kernel), List.mem_of_getElem? (i := 748) (by decide +kernel)⟩
theorem lw_p38 : lw_okq (⟨"CellFormatter$NumberWriter", "onlyZerosFrom", "(II)Z"⟩, 7) := ⟨⟨by decide +kernel, by decide +kernel⟩, List.mem_of_getElem? (i := 179) (by decide +kernel), List.mem_of_getElem? (i := 751) (by decide +kernel), List.mem_of_getElem? (i := 752) (by decide +kernel)⟩
theorem lw_p39 : lw_okq (⟨"CellFormatter$NumberWriter", "writeExponentMark", "(I)V"⟩, 7) := ⟨⟨by decide +kernel, by decide +kernel⟩, List.mem_of_getElem? (i := 179) (by decide +kernel), List.mem_of_getElem? (i := 755) (by decide +kernel), List.mem_of_getElem? (i := 756) (by decide +kernel)⟩
theorem lw_p40 : lw_okq (⟨"CellFormatter", "writePlain", "(LCellFormatter$Section;Z)V"⟩, 12) := ⟨⟨by decide +kernel, by decide +kernel⟩, List.mem_of_getElem? (i := 18) (by decide +kernel), List.mem_of_getElem? (i := 759) (by decide +kernel), List.mem_of_getElem? (i := 760) (by decide +kernel)⟩
theorem lw_p41 : lw_okq (⟨"CellFormatterModel", "token", "(I)V"⟩, 21) := ⟨⟨by decide +kernel, by decide +kernel⟩, List.mem_of_getElem? (i := 791) (by decide +kernel), List.mem_of_getElem? (i := 873) (by decide +kernel), List.mem_of_getElem? (i := 874) (by decide +kernel)⟩
theorem lw_p42 : lw_okq (⟨"CellFormatterModel", "at", "(I)I"⟩, 21) := ⟨⟨by decide +kernel, by decide +kernel⟩, List.mem_of_getElem? (i := 791) (by decide +kernel), List.mem_of_getElem? (i := 877) (by decide +kernel), List.mem_of_getElem? (i := 878) (by decide +kernel)⟩
theorem lw_p43 : lw_okq (⟨"CellFormatterModel", "quoted", "(I)V"⟩, 21) := ⟨⟨by decide +kernel, by decide +kernel⟩, List.mem_of_getElem? (i := 791) (by decide +kernel), List.mem_of_getElem? (i := 881) (by decide +kernel), List.mem_of_getElem? (i := 882) (by decide +kernel)⟩
theorem lw_p44 : lw_okq (⟨"CellFormatterModel", "meet", "(IIII)V"⟩, 21) := ⟨⟨by decide +kernel, by decide +kernel⟩, List.mem_of_getElem? (i := 791) (by decide +kernel), List.mem_of_getElem? (i := 885) (by decide +kernel), List.mem_of_getElem? (i := 886) (by decide +kernel)⟩
theorem lw_p45 : lw_okq (⟨"CellFormatterModel", "bracket", "(I)V"⟩, 21) := ⟨⟨by decide +kernel, by decide +kernel⟩, List.mem_of_getElem? (i := 791) (by decide +kernel), List.mem_of_getElem? (i := 892) (by decide +kernel), List.mem_of_getElem? (i := 893) (by decide +kernel)⟩
theorem lw_p46 : lw_okq (⟨"CellFormatterModel", "comparison", "(I)I"⟩, 21) := ⟨⟨by decide +kernel, by decide +kernel⟩, List.mem_of_getElem? (i := 791) (by decide +kernel), List.mem_of_getElem? (i := 896) (by decide +kernel), List.mem_of_getElem? (i := 897) (by decide +kernel)⟩
theorem lw_p47 : lw_okq (⟨"CellFormatterModel", "letters", "(I)V"⟩, 21) := ⟨⟨by decide +kernel, by decide +kernel⟩, List.mem_of_getElem? (i := 791) (by decide +kernel), List.mem_of_getElem? (i := 903) (by decide +kernel), List.mem_of_getElem? (i := 904) (by decide +kernel)⟩
def lw_privs_3 : List (MethodName × Nat) := [(⟨"CellFormatter$MomentWriter", "writeName", "(Ljava/lang/String;I)V"⟩, 4), (⟨"CellFormatter$NumberWriter", "prepare", "(LCellFormatter$Section;J)V"⟩, 7), (⟨"CellFormatter$NumberWriter", "writePlace", "(LCellFormatter$Section;II)V"⟩, 7), (⟨"CellFormatter$NumberWriter", "writeIntegerPlace", "(LCellFormatter$Decimal;IIZZ)V"⟩, 7), (⟨"CellFormatter$NumberWriter", "writeDigit", "(LCellFormatter$Decimal;IZ)V"⟩, 7), (⟨"CellFormatter$NumberWriter", "writeFractionPlace", "(II)V"⟩, 7), (⟨"CellFormatter$NumberWriter", "onlyZerosFrom", "(II)Z"⟩, 7), (⟨"CellFormatter$NumberWriter", "writeExponentMark", "(I)V"⟩, 7), (⟨"CellFormatter", "writePlain", "(LCellFormatter$Section;Z)V"⟩, 12), (⟨"CellFormatterModel", "token", "(I)V"⟩, 21), (⟨"CellFormatterModel", "at", "(I)I"⟩, 21), (⟨"CellFormatterModel", "quoted", "(I)V"⟩, 21), (⟨"CellFormatterModel", "meet", "(IIII)V"⟩, 21), (⟨"CellFormatterModel", "bracket", "(I)V"⟩, 21), (⟨"CellFormatterModel", "comparison", "(I)I"⟩, 21), (⟨"CellFormatterModel", "letters", "(I)V"⟩, 21)]
theorem lw_r3 : ∀ q ∈ lw_privs_3, lw_okq q := List.forall_mem_cons.mpr ⟨lw_p32, List.forall_mem_cons.mpr ⟨lw_p33, List.forall_mem_cons.mpr ⟨lw_p34, List.forall_mem_cons.mpr ⟨lw_p35, List.forall_mem_cons.mpr ⟨lw_p36, List.forall_mem_cons.mpr ⟨lw_p37, List.forall_mem_cons.mpr ⟨lw_p38, List.forall_mem_cons.mpr ⟨lw_p39, List.forall_mem_cons.mpr ⟨lw_p40, List.forall_mem_cons.mpr ⟨lw_p41, List.forall_mem_cons.mpr ⟨lw_p42, List.forall_mem_cons.mpr ⟨lw_p43, List.forall_mem_cons.mpr ⟨lw_p44, List.forall_mem_cons.mpr ⟨lw_p45, List.forall_mem_cons.mpr ⟨lw_p46, List.forall_mem_cons.mpr ⟨lw_p47, fun _ h => absurd h List.not_mem_nil⟩⟩⟩⟩⟩⟩⟩⟩⟩⟩⟩⟩⟩⟩⟩⟩
theorem lw_p48 : lw_okq (⟨"CellFormatterModel", "wellMade", "(I)Z"⟩, 21) := ⟨⟨by decide +kernel, by decide +kernel⟩, List.mem_of_getElem? (i := 791) (by decide +kernel), List.mem_of_getElem? (i := 907) (by decide +kernel), List.mem_of_getElem? (i := 908) (by decide +kernel)⟩
theorem lw_p49 : lw_okq (⟨"CellFormatterModel", "count", "(III)I"⟩, 21) := ⟨⟨by decide +kernel, by decide +kernel⟩, List.mem_of_getElem? (i := 791) (by decide +kernel), List.mem_of_getElem? (i := 911) (by decide +kernel), List.mem_of_getElem? (i := 912) (by decide +kernel)⟩
theorem lw_p50 : lw_okq (⟨"CellFormatterModel", "kindOf", "(I)I"⟩, 21) := ⟨⟨by decide +kernel, by decide +kernel⟩, List.mem_of_getElem? (i := 791) (by decide +kernel), List.mem_of_getElem? (i := 915) (by decide +kernel), List.mem_of_getElem? (i := 916) (by decide +kernel)⟩
theorem lw_p51 : lw_okq (⟨"CellFormatterModel", "find", "(II)I"⟩, 21) := ⟨⟨by decide +kernel, by decide +kernel⟩, List.mem_of_getElem? (i := 791) (by decide +kernel), List.mem_of_getElem? (i := 919) (by decide +kernel), List.mem_of_getElem? (i := 920) (by decide +kernel)⟩
theorem lw_p52 : lw_okq (⟨"CellFormatterModel", "integerEnd", "(I)I"⟩, 21) := ⟨⟨by decide +kernel, by decide +kernel⟩, List.mem_of_getElem? (i := 791) (by decide +kernel), List.mem_of_getElem? (i := 923) (by decide +kernel), List.mem_of_getElem? (i := 924) (by decide +kernel)⟩
theorem lw_p53 : lw_okq (⟨"CellFormatterModel", "groups", "(II)Z"⟩, 21) := ⟨⟨by decide +kernel, by decide +kernel⟩, List.mem_of_getElem? (i := 791) (by decide +kernel), List.mem_of_getElem? (i := 927) (by decide +kernel), List.mem_of_getElem? (i := 928) (by decide +kernel)⟩
theorem lw_p54 : lw_okq (⟨"CellFormatterModel", "scales", "(II)Z"⟩, 21) := ⟨⟨by decide +kernel, by decide +kernel⟩, List.mem_of_getElem? (i := 791) (by decide +kernel), List.mem_of_getElem? (i := 931) (by decide +kernel), List.mem_of_getElem? (i := 932) (by decide +kernel)⟩
theorem lw_p55 : lw_okq (⟨"CellFormatterModel", "firstSerial", "()I"⟩, 21) := ⟨⟨by decide +kernel, by decide +kernel⟩, List.mem_of_getElem? (i := 791) (by decide +kernel), List.mem_of_getElem? (i := 951) (by decide +kernel), List.mem_of_getElem? (i := 952) (by decide +kernel)⟩
theorem lw_p56 : lw_okq (⟨"CellFormatterModel", "lastSerial", "()I"⟩, 21) := ⟨⟨by decide +kernel, by decide +kernel⟩, List.mem_of_getElem? (i := 791) (by decide +kernel), List.mem_of_getElem? (i := 955) (by decide +kernel), List.mem_of_getElem? (i := 956) (by decide +kernel)⟩
theorem lw_p57 : lw_okq (⟨"CellFormatterModel", "firstYear", "()I"⟩, 21) := ⟨⟨by decide +kernel, by decide +kernel⟩, List.mem_of_getElem? (i := 791) (by decide +kernel), List.mem_of_getElem? (i := 959) (by decide +kernel), List.mem_of_getElem? (i := 960) (by decide +kernel)⟩
theorem lw_p58 : lw_okq (⟨"CellFormatterModel", "daysOfYear", "(I)I"⟩, 21) := ⟨⟨by decide +kernel, by decide +kernel⟩, List.mem_of_getElem? (i := 791) (by decide +kernel), List.mem_of_getElem? (i := 963) (by decide +kernel), List.mem_of_getElem? (i := 964) (by decide +kernel)⟩
theorem lw_p59 : lw_okq (⟨"CellFormatterModel", "daysOf", "(II)I"⟩, 21) := ⟨⟨by decide +kernel, by decide +kernel⟩, List.mem_of_getElem? (i := 791) (by decide +kernel), List.mem_of_getElem? (i := 967) (by decide +kernel), List.mem_of_getElem? (i := 968) (by decide +kernel)⟩
theorem lw_p60 : lw_okq (⟨"CellFormatterModel", "sectionFor", "(J)I"⟩, 21) := ⟨⟨by decide +kernel, by decide +kernel⟩, List.mem_of_getElem? (i := 791) (by decide +kernel), List.mem_of_getElem? (i := 984) (by decide +kernel), List.mem_of_getElem? (i := 985) (by decide +kernel)⟩
theorem lw_p61 : lw_okq (⟨"CellFormatterModel", "anyCondition", "()Z"⟩, 21) := ⟨⟨by decide +kernel, by decide +kernel⟩, List.mem_of_getElem? (i := 791) (by decide +kernel), List.mem_of_getElem? (i := 988) (by decide +kernel), List.mem_of_getElem? (i := 989) (by decide +kernel)⟩
theorem lw_p62 : lw_okq (⟨"CellFormatterModel", "conditional", "(I)Z"⟩, 21) := ⟨⟨by decide +kernel, by decide +kernel⟩, List.mem_of_getElem? (i := 791) (by decide +kernel), List.mem_of_getElem? (i := 992) (by decide +kernel), List.mem_of_getElem? (i := 993) (by decide +kernel)⟩
theorem lw_p63 : lw_okq (⟨"CellFormatterModel", "holds", "(IJ)Z"⟩, 21) := ⟨⟨by decide +kernel, by decide +kernel⟩, List.mem_of_getElem? (i := 791) (by decide +kernel), List.mem_of_getElem? (i := 996) (by decide +kernel), List.mem_of_getElem? (i := 997) (by decide +kernel)⟩
def lw_privs_4 : List (MethodName × Nat) := [(⟨"CellFormatterModel", "wellMade", "(I)Z"⟩, 21), (⟨"CellFormatterModel", "count", "(III)I"⟩, 21), (⟨"CellFormatterModel", "kindOf", "(I)I"⟩, 21), (⟨"CellFormatterModel", "find", "(II)I"⟩, 21), (⟨"CellFormatterModel", "integerEnd", "(I)I"⟩, 21), (⟨"CellFormatterModel", "groups", "(II)Z"⟩, 21), (⟨"CellFormatterModel", "scales", "(II)Z"⟩, 21), (⟨"CellFormatterModel", "firstSerial", "()I"⟩, 21), (⟨"CellFormatterModel", "lastSerial", "()I"⟩, 21), (⟨"CellFormatterModel", "firstYear", "()I"⟩, 21), (⟨"CellFormatterModel", "daysOfYear", "(I)I"⟩, 21), (⟨"CellFormatterModel", "daysOf", "(II)I"⟩, 21), (⟨"CellFormatterModel", "sectionFor", "(J)I"⟩, 21), (⟨"CellFormatterModel", "anyCondition", "()Z"⟩, 21), (⟨"CellFormatterModel", "conditional", "(I)Z"⟩, 21), (⟨"CellFormatterModel", "holds", "(IJ)Z"⟩, 21)]
theorem lw_r4 : ∀ q ∈ lw_privs_4, lw_okq q := List.forall_mem_cons.mpr ⟨lw_p48, List.forall_mem_cons.mpr ⟨lw_p49, List.forall_mem_cons.mpr ⟨lw_p50, List.forall_mem_cons.mpr ⟨lw_p51, List.forall_mem_cons.mpr ⟨lw_p52, List.forall_mem_cons.mpr ⟨lw_p53, List.forall_mem_cons.mpr ⟨lw_p54, List.forall_mem_cons.mpr ⟨lw_p55, List.forall_mem_cons.mpr ⟨lw_p56, List.forall_mem_cons.mpr ⟨lw_p57, List.forall_mem_cons.mpr ⟨lw_p58, List.forall_mem_cons.mpr ⟨lw_p59, List.forall_mem_cons.mpr ⟨lw_p60, List.forall_mem_cons.mpr ⟨lw_p61, List.forall_mem_cons.mpr ⟨lw_p62, List.forall_mem_cons.mpr ⟨lw_p63, fun _ h => absurd h List.not_mem_nil⟩⟩⟩⟩⟩⟩⟩⟩⟩⟩⟩⟩⟩⟩⟩⟩
theorem lw_p64 : lw_okq (⟨"CellFormatterModel", "moment", "(IJ)Z"⟩, 21) := ⟨⟨by decide +kernel, by decide +kernel⟩, List.mem_of_getElem? (i := 791) (by decide +kernel), List.mem_of_getElem? (i := 1001) (by decide +kernel), List.mem_of_getElem? (i := 1002) (by decide +kernel)⟩
theorem lw_p65 : lw_okq (⟨"CellFormatterModel", "daily", "(II)Z"⟩, 21) := ⟨⟨by decide +kernel, by decide +kernel⟩, List.mem_of_getElem? (i := 791) (by decide +kernel), List.mem_of_getElem? (i := 1008) (by decide +kernel), List.mem_of_getElem? (i := 1009) (by decide +kernel)⟩
theorem lw_p66 : lw_okq (⟨"CellFormatterModel", "minute", "(II)Z"⟩, 21) := ⟨⟨by decide +kernel, by decide +kernel⟩, List.mem_of_getElem? (i := 791) (by decide +kernel), List.mem_of_getElem? (i := 1012) (by decide +kernel), List.mem_of_getElem? (i := 1013) (by decide +kernel)⟩
theorem lw_p67 : lw_okq (⟨"CellFormatterModel", "field", "(I)Z"⟩, 21) := ⟨⟨by decide +kernel, by decide +kernel⟩, List.mem_of_getElem? (i := 791) (by decide +kernel), List.mem_of_getElem? (i := 1016) (by decide +kernel), List.mem_of_getElem? (i := 1017) (by decide +kernel)⟩
theorem lw_p68 : lw_okq (⟨"CellFormatterModel", "putLiteral", "(I)V"⟩, 21) := ⟨⟨by decide +kernel, by decide +kernel⟩, List.mem_of_getElem? (i := 791) (by decide +kernel), List.mem_of_getElem? (i := 1020) (by decide +kernel), List.mem_of_getElem? (i := 1021) (by decide +kernel)⟩
theorem lw_p69 : lw_okq (⟨"CellFormatterModel", "put", "(I)V"⟩, 21) := ⟨⟨by decide +kernel, by decide +kernel⟩, List.mem_of_getElem? (i := 791) (by decide +kernel), List.mem_of_getElem? (i := 1024) (by decide +kernel), List.mem_of_getElem? (i := 1025) (by decide +kernel)⟩
theorem lw_p70 : lw_okq (⟨"CellFormatterModel", "dailyField", "(II)V"⟩, 21) := ⟨⟨by decide +kernel, by decide +kernel⟩, List.mem_of_getElem? (i := 791) (by decide +kernel), List.mem_of_getElem? (i := 1028) (by decide +kernel), List.mem_of_getElem? (i := 1029) (by decide +kernel)⟩
theorem lw_p71 : lw_okq (⟨"CellFormatterModel", "putNumber", "(JI)V"⟩, 21) := ⟨⟨by decide +kernel, by decide +kernel⟩, List.mem_of_getElem? (i := 791) (by decide +kernel), List.mem_of_getElem? (i := 1033) (by decide +kernel), List.mem_of_getElem? (i := 1034) (by decide +kernel)⟩
theorem lw_p72 : lw_okq (⟨"CellFormatterModel", "month", "(I)V"⟩, 21) := ⟨⟨by decide +kernel, by decide +kernel⟩, List.mem_of_getElem? (i := 791) (by decide +kernel), List.mem_of_getElem? (i := 1039) (by decide +kernel), List.mem_of_getElem? (i := 1040) (by decide +kernel)⟩
theorem lw_p73 : lw_okq (⟨"CellFormatterModel", "weekday", "(I)V"⟩, 21) := ⟨⟨by decide +kernel, by decide +kernel⟩, List.mem_of_getElem? (i := 791) (by decide +kernel), List.mem_of_getElem? (i := 1043) (by decide +kernel), List.mem_of_getElem? (i := 1044) (by decide +kernel)⟩
theorem lw_p74 : lw_okq (⟨"CellFormatterModel", "timeField", "(IIJI)V"⟩, 21) := ⟨⟨by decide +kernel, by decide +kernel⟩, List.mem_of_getElem? (i := 791) (by decide +kernel), List.mem_of_getElem? (i := 1047) (by decide +kernel), List.mem_of_getElem? (i := 1048) (by decide +kernel)⟩
theorem lw_p75 : lw_okq (⟨"CellFormatterModel", "plain", "(I)V"⟩, 21) := ⟨⟨by decide +kernel, by decide +kernel⟩, List.mem_of_getElem? (i := 791) (by decide +kernel), List.mem_of_getElem? (i := 1053) (by decide +kernel), List.mem_of_getElem? (i := 1054) (by decide +kernel)⟩
theorem lw_p76 : lw_okq (⟨"CellFormatterModel", "reckon", "(IJ)V"⟩, 21) := ⟨⟨by decide +kernel, by decide +kernel⟩, List.mem_of_getElem? (i := 791) (by decide +kernel), List.mem_of_getElem? (i := 1057) (by decide +kernel), List.mem_of_getElem? (i := 1058) (by decide +kernel)⟩
theorem lw_p77 : lw_okq (⟨"CellFormatterModel", "round", "(JII)V"⟩, 21) := ⟨⟨by decide +kernel, by decide +kernel⟩, List.mem_of_getElem? (i := 791) (by decide +kernel), List.mem_of_getElem? (i := 1061) (by decide +kernel), List.mem_of_getElem? (i := 1062) (by decide +kernel)⟩
theorem lw_p78 : lw_okq (⟨"CellFormatterModel", "top", "()I"⟩, 21) := ⟨⟨by decide +kernel, by decide +kernel⟩, List.mem_of_getElem? (i := 791) (by decide +kernel), List.mem_of_getElem? (i := 1069) (by decide +kernel), List.mem_of_getElem? (i := 1070) (by decide +kernel)⟩
theorem lw_p79 : lw_okq (⟨"CellFormatterModel", "number", "(I)V"⟩, 21) := ⟨⟨by decide +kernel, by decide +kernel⟩, List.mem_of_getElem? (i := 791) (by decide +kernel), List.mem_of_getElem? (i := 1073) (by decide +kernel), List.mem_of_getElem? (i := 1074) (by decide +kernel)⟩
def lw_privs_5 : List (MethodName × Nat) := [(⟨"CellFormatterModel", "moment", "(IJ)Z"⟩, 21), (⟨"CellFormatterModel", "daily", "(II)Z"⟩, 21), (⟨"CellFormatterModel", "minute", "(II)Z"⟩, 21), (⟨"CellFormatterModel", "field", "(I)Z"⟩, 21), (⟨"CellFormatterModel", "putLiteral", "(I)V"⟩, 21), (⟨"CellFormatterModel", "put", "(I)V"⟩, 21), (⟨"CellFormatterModel", "dailyField", "(II)V"⟩, 21), (⟨"CellFormatterModel", "putNumber", "(JI)V"⟩, 21), (⟨"CellFormatterModel", "month", "(I)V"⟩, 21), (⟨"CellFormatterModel", "weekday", "(I)V"⟩, 21), (⟨"CellFormatterModel", "timeField", "(IIJI)V"⟩, 21), (⟨"CellFormatterModel", "plain", "(I)V"⟩, 21), (⟨"CellFormatterModel", "reckon", "(IJ)V"⟩, 21), (⟨"CellFormatterModel", "round", "(JII)V"⟩, 21), (⟨"CellFormatterModel", "top", "()I"⟩, 21), (⟨"CellFormatterModel", "number", "(I)V"⟩, 21)]
theorem lw_r5 : ∀ q ∈ lw_privs_5, lw_okq q := List.forall_mem_cons.mpr ⟨lw_p64, List.forall_mem_cons.mpr ⟨lw_p65, List.forall_mem_cons.mpr ⟨lw_p66, List.forall_mem_cons.mpr ⟨lw_p67, List.forall_mem_cons.mpr ⟨lw_p68, List.forall_mem_cons.mpr ⟨lw_p69, List.forall_mem_cons.mpr ⟨lw_p70, List.forall_mem_cons.mpr ⟨lw_p71, List.forall_mem_cons.mpr ⟨lw_p72, List.forall_mem_cons.mpr ⟨lw_p73, List.forall_mem_cons.mpr ⟨lw_p74, List.forall_mem_cons.mpr ⟨lw_p75, List.forall_mem_cons.mpr ⟨lw_p76, List.forall_mem_cons.mpr ⟨lw_p77, List.forall_mem_cons.mpr ⟨lw_p78, List.forall_mem_cons.mpr ⟨lw_p79, fun _ h => absurd h List.not_mem_nil⟩⟩⟩⟩⟩⟩⟩⟩⟩⟩⟩⟩⟩⟩⟩⟩
theorem lw_p80 : lw_okq (⟨"CellFormatterModel", "place", "(IIZ)V"⟩, 21) := ⟨⟨by decide +kernel, by decide +kernel⟩, List.mem_of_getElem? (i := 791) (by decide +kernel), List.mem_of_getElem? (i := 1077) (by decide +kernel), List.mem_of_getElem? (i := 1078) (by decide +kernel)⟩
theorem lw_p81 : lw_okq (⟨"CellFormatterModel", "integerPlace", "(IIZZ)V"⟩, 21) := ⟨⟨by decide +kernel, by decide +kernel⟩, List.mem_of_getElem? (i := 791) (by decide +kernel), List.mem_of_getElem? (i := 1081) (by decide +kernel), List.mem_of_getElem? (i := 1082) (by decide +kernel)⟩
theorem lw_p82 : lw_okq (⟨"CellFormatterModel", "digitOf", "(I)I"⟩, 21) := ⟨⟨by decide +kernel, by decide +kernel⟩, List.mem_of_getElem? (i := 791) (by decide +kernel), List.mem_of_getElem? (i := 1085) (by decide +kernel), List.mem_of_getElem? (i := 1086) (by decide +kernel)⟩
theorem lw_p83 : lw_okq (⟨"CellFormatterModel", "fractionPlace", "(II)V"⟩, 21) := ⟨⟨by decide +kernel, by decide +kernel⟩, List.mem_of_getElem? (i := 791) (by decide +kernel), List.mem_of_getElem? (i := 1089) (by decide +kernel), List.mem_of_getElem? (i := 1090) (by decide +kernel)⟩
theorem lw_p84 : lw_okq (⟨"CellFormatterModel", "exponentPlace", "(IIZ)V"⟩, 21) := ⟨⟨by decide +kernel, by decide +kernel⟩, List.mem_of_getElem? (i := 791) (by decide +kernel), List.mem_of_getElem? (i := 1093) (by decide +kernel), List.mem_of_getElem? (i := 1094) (by decide +kernel)⟩
def lw_privs_6 : List (MethodName × Nat) := [(⟨"CellFormatterModel", "place", "(IIZ)V"⟩, 21), (⟨"CellFormatterModel", "integerPlace", "(IIZZ)V"⟩, 21), (⟨"CellFormatterModel", "digitOf", "(I)I"⟩, 21), (⟨"CellFormatterModel", "fractionPlace", "(II)V"⟩, 21), (⟨"CellFormatterModel", "exponentPlace", "(IIZ)V"⟩, 21)]
theorem lw_r6 : ∀ q ∈ lw_privs_6, lw_okq q := List.forall_mem_cons.mpr ⟨lw_p80, List.forall_mem_cons.mpr ⟨lw_p81, List.forall_mem_cons.mpr ⟨lw_p82, List.forall_mem_cons.mpr ⟨lw_p83, List.forall_mem_cons.mpr ⟨lw_p84, fun _ h => absurd h List.not_mem_nil⟩⟩⟩⟩⟩
def lw_privs : List (MethodName × Nat) := lw_privs_1 ++ (lw_privs_2 ++ (lw_privs_3 ++ (lw_privs_4 ++ (lw_privs_5 ++ (lw_privs_6)))))
def lw_tbl : List Cond := k2_sels lw_privs ++ tables_1
theorem lw_privs_ok : ∀ q ∈ lw_privs, lw_okq q := by
  show ∀ q ∈ lw_privs_1 ++ (lw_privs_2 ++ (lw_privs_3 ++ (lw_privs_4 ++ (lw_privs_5 ++ (lw_privs_6))))), lw_okq q
  exact List.forall_mem_append.mpr ⟨lw_r1, List.forall_mem_append.mpr ⟨lw_r2, List.forall_mem_append.mpr ⟨lw_r3, List.forall_mem_append.mpr ⟨lw_r4, List.forall_mem_append.mpr ⟨lw_r5, lw_r6⟩⟩⟩⟩⟩
end
section
/-! names: classes, their fields -/
def cf_T : List Cond := lw_tbl.filter goodWord
theorem cf_in {w : Cond} (i : Nat) (h : lw_tbl[i]? = some w) (hg : goodWord w = true) : w ∈ cf_T := List.mem_filter.mpr ⟨List.mem_of_getElem? h, hg⟩
def RX0 : String := "CellFormatter$Calendar"
def TX0 : u_T := fun k => match k with
  | 0 => ("CellFormatter$Calendar", "is1904", "Z", false)
  | 1 => ("CellFormatter$Calendar", "year", "I", false)
  | 2 => ("CellFormatter$Calendar", "month", "I", false)
  | 3 => ("CellFormatter$Calendar", "day", "I", false)
  | _ => ("CellFormatter$Calendar", "weekday", "I", false)
def tyX0 : Nat → FieldType := fun k => match k with
  | 0 => .boolean
  | 1 => .int
  | 2 => .int
  | 3 => .int
  | _ => .int
theorem nmX0 : ∀ a, a < 5 → ∀ b, b < 5 → a ≠ b → (TX0 a).2.1 ≠ (TX0 b).2.1 := by decide +kernel
theorem tyX0_ok : ∀ k, k < 5 → parseFieldDescriptor (TX0 k).2.2.1 = some (tyX0 k) := by decide +kernel
theorem inX0 : ∀ w ∈ u_ws RX0 TX0 5, w ∈ cf_T := by
  intro w hw
  obtain ⟨k, hk, rfl⟩ := List.mem_map.mp hw
  have hk : k < 5 := List.mem_range.mp hk
  match k, hk with
  | 0, _ => exact cf_in 238 (by decide +kernel) (by decide +kernel)
  | 1, _ => exact cf_in 240 (by decide +kernel) (by decide +kernel)
  | 2, _ => exact cf_in 242 (by decide +kernel) (by decide +kernel)
  | 3, _ => exact cf_in 244 (by decide +kernel) (by decide +kernel)
  | 4, _ => exact cf_in 246 (by decide +kernel) (by decide +kernel)
  | k + 5, hk => exact absurd hk (by omega)
abbrev cX0 : vw_C := (RX0, TX0, 5)
def RX1 : String := "CellFormatter$Decimal"
def TX1 : u_T := fun k => match k with
  | 0 => ("CellFormatter$Decimal", "digits", "J", false)
  | _ => ("CellFormatter$Decimal", "power", "I", false)
def tyX1 : Nat → FieldType := fun k => match k with
  | 0 => .long
  | _ => .int
theorem nmX1 : ∀ a, a < 2 → ∀ b, b < 2 → a ≠ b → (TX1 a).2.1 ≠ (TX1 b).2.1 := by decide +kernel
theorem tyX1_ok : ∀ k, k < 2 → parseFieldDescriptor (TX1 k).2.2.1 = some (tyX1 k) := by decide +kernel
theorem inX1 : ∀ w ∈ u_ws RX1 TX1 2, w ∈ cf_T := by
  intro w hw
  obtain ⟨k, hk, rfl⟩ := List.mem_map.mp hw
  have hk : k < 2 := List.mem_range.mp hk
  match k, hk with
  | 0, _ => exact cf_in 277 (by decide +kernel) (by decide +kernel)
  | 1, _ => exact cf_in 279 (by decide +kernel) (by decide +kernel)
  | k + 2, hk => exact absurd hk (by omega)
abbrev cX1 : vw_C := (RX1, TX1, 2)
def RX2 : String := "CellFormatter$MomentWriter"
def TX2 : u_T := fun k => match k with
  | 0 => ("CellFormatter$MomentWriter", "out", "LCellFormatter$Text;", true)
  | 1 => ("CellFormatter$MomentWriter", "days", "LCellFormatter$Calendar;", true)
  | 2 => ("CellFormatter$MomentWriter", "dayCount", "J", false)
  | _ => ("CellFormatter$MomentWriter", "seconds", "I", false)
def tyX2 : Nat → FieldType := fun k => match k with
  | 0 => .object "CellFormatter$Text"
  | 1 => .object "CellFormatter$Calendar"
  | 2 => .long
  | _ => .int
theorem nmX2 : ∀ a, a < 4 → ∀ b, b < 4 → a ≠ b → (TX2 a).2.1 ≠ (TX2 b).2.1 := by decide +kernel
theorem tyX2_ok : ∀ k, k < 4 → parseFieldDescriptor (TX2 k).2.2.1 = some (tyX2 k) := by decide +kernel
theorem inX2 : ∀ w ∈ u_ws RX2 TX2 4, w ∈ cf_T := by
  intro w hw
  obtain ⟨k, hk, rfl⟩ := List.mem_map.mp hw
  have hk : k < 4 := List.mem_range.mp hk
  match k, hk with
  | 0, _ => exact cf_in 314 (by decide +kernel) (by decide +kernel)
  | 1, _ => exact cf_in 316 (by decide +kernel) (by decide +kernel)
  | 2, _ => exact cf_in 318 (by decide +kernel) (by decide +kernel)
  | 3, _ => exact cf_in 320 (by decide +kernel) (by decide +kernel)
  | k + 4, hk => exact absurd hk (by omega)
abbrev cX2 : vw_C := (RX2, TX2, 4)
def RX3 : String := "CellFormatter$NumberWriter"
def TX3 : u_T := fun k => match k with
  | 0 => ("CellFormatter$NumberWriter", "out", "LCellFormatter$Text;", true)
  | 1 => ("CellFormatter$NumberWriter", "number", "LCellFormatter$Decimal;", true)
  | 2 => ("CellFormatter$NumberWriter", "exponentSize", "LCellFormatter$Decimal;", true)
  | 3 => ("CellFormatter$NumberWriter", "exponentNegative", "Z", false)
  | 4 => ("CellFormatter$NumberWriter", "integersLeft", "I", false)
  | 5 => ("CellFormatter$NumberWriter", "fractionsSeen", "I", false)
  | _ => ("CellFormatter$NumberWriter", "exponentsLeft", "I", false)
def tyX3 : Nat → FieldType := fun k => match k with
  | 0 => .object "CellFormatter$Text"
  | 1 => .object "CellFormatter$Decimal"
  | 2 => .object "CellFormatter$Decimal"
  | 3 => .boolean
  | 4 => .int
  | 5 => .int
  | _ => .int
theorem nmX3 : ∀ a, a < 7 → ∀ b, b < 7 → a ≠ b → (TX3 a).2.1 ≠ (TX3 b).2.1 := by decide +kernel
theorem tyX3_ok : ∀ k, k < 7 → parseFieldDescriptor (TX3 k).2.2.1 = some (tyX3 k) := by decide +kernel
theorem inX3 : ∀ w ∈ u_ws RX3 TX3 7, w ∈ cf_T := by
  intro w hw
  obtain ⟨k, hk, rfl⟩ := List.mem_map.mp hw
  have hk : k < 7 := List.mem_range.mp hk
  match k, hk with
  | 0, _ => exact cf_in 289 (by decide +kernel) (by decide +kernel)
  | 1, _ => exact cf_in 291 (by decide +kernel) (by decide +kernel)
  | 2, _ => exact cf_in 293 (by decide +kernel) (by decide +kernel)
  | 3, _ => exact cf_in 295 (by decide +kernel) (by decide +kernel)
  | 4, _ => exact cf_in 297 (by decide +kernel) (by decide +kernel)
  | 5, _ => exact cf_in 299 (by decide +kernel) (by decide +kernel)
  | 6, _ => exact cf_in 301 (by decide +kernel) (by decide +kernel)
  | k + 7, hk => exact absurd hk (by omega)
abbrev cX3 : vw_C := (RX3, TX3, 7)
def RX4 : String := "CellFormatter$Scanner"
def TX4 : u_T := fun k => match k with
  | 0 => ("CellFormatter$Scanner", "tokens", "LCellFormatter$Tokens;", true)
  | 1 => ("CellFormatter$Scanner", "code", "[C", false)
  | _ => ("CellFormatter$Scanner", "length", "I", false)
def tyX4 : Nat → FieldType := fun k => match k with
  | 0 => .object "CellFormatter$Tokens"
  | 1 => .array .char
  | _ => .int
theorem nmX4 : ∀ a, a < 3 → ∀ b, b < 3 → a ≠ b → (TX4 a).2.1 ≠ (TX4 b).2.1 := by decide +kernel
theorem tyX4_ok : ∀ k, k < 3 → parseFieldDescriptor (TX4 k).2.2.1 = some (tyX4 k) := by decide +kernel
theorem inX4 : ∀ w ∈ u_ws RX4 TX4 3, w ∈ cf_T := by
  intro w hw
  obtain ⟨k, hk, rfl⟩ := List.mem_map.mp hw
  have hk : k < 3 := List.mem_range.mp hk
  match k, hk with
  | 0, _ => exact cf_in 141 (by decide +kernel) (by decide +kernel)
  | 1, _ => exact cf_in 143 (by decide +kernel) (by decide +kernel)
  | 2, _ => exact cf_in 145 (by decide +kernel) (by decide +kernel)
  | k + 3, hk => exact absurd hk (by omega)
abbrev cX4 : vw_C := (RX4, TX4, 3)
def RX5 : String := "CellFormatter$Section"
def TX5 : u_T := fun k => match k with
  | 0 => ("CellFormatter$Section", "first", "I", false)
  | 1 => ("CellFormatter$Section", "end", "I", false)
  | 2 => ("CellFormatter$Section", "kind", "I", false)
  | 3 => ("CellFormatter$Section", "test", "I", false)
  | 4 => ("CellFormatter$Section", "bound", "J", false)
  | 5 => ("CellFormatter$Section", "pointAt", "I", false)
  | 6 => ("CellFormatter$Section", "exponentAt", "I", false)
  | 7 => ("CellFormatter$Section", "integerPlaces", "I", false)
  | 8 => ("CellFormatter$Section", "fractionPlaces", "I", false)
  | 9 => ("CellFormatter$Section", "exponentPlaces", "I", false)
  | 10 => ("CellFormatter$Section", "percents", "I", false)
  | 11 => ("CellFormatter$Section", "scalings", "I", false)
  | 12 => ("CellFormatter$Section", "grouped", "Z", false)
  | 13 => ("CellFormatter$Section", "twelveHours", "Z", false)
  | _ => ("CellFormatter$Section", "namesDay", "Z", false)
def tyX5 : Nat → FieldType := fun k => match k with
  | 0 => .int
  | 1 => .int
  | 2 => .int
  | 3 => .int
  | 4 => .long
  | 5 => .int
  | 6 => .int
  | 7 => .int
  | 8 => .int
  | 9 => .int
  | 10 => .int
  | 11 => .int
  | 12 => .boolean
  | 13 => .boolean
  | _ => .boolean
theorem nmX5 : ∀ a, a < 15 → ∀ b, b < 15 → a ≠ b → (TX5 a).2.1 ≠ (TX5 b).2.1 := by decide +kernel
theorem tyX5_ok : ∀ k, k < 15 → parseFieldDescriptor (TX5 k).2.2.1 = some (tyX5 k) := by decide +kernel
theorem inX5 : ∀ w ∈ u_ws RX5 TX5 15, w ∈ cf_T := by
  intro w hw
  obtain ⟨k, hk, rfl⟩ := List.mem_map.mp hw
  have hk : k < 15 := List.mem_range.mp hk
  match k, hk with
  | 0, _ => exact cf_in 187 (by decide +kernel) (by decide +kernel)
  | 1, _ => exact cf_in 189 (by decide +kernel) (by decide +kernel)
  | 2, _ => exact cf_in 191 (by decide +kernel) (by decide +kernel)
  | 3, _ => exact cf_in 193 (by decide +kernel) (by decide +kernel)
  | 4, _ => exact cf_in 195 (by decide +kernel) (by decide +kernel)
  | 5, _ => exact cf_in 197 (by decide +kernel) (by decide +kernel)
  | 6, _ => exact cf_in 199 (by decide +kernel) (by decide +kernel)
  | 7, _ => exact cf_in 201 (by decide +kernel) (by decide +kernel)
  | 8, _ => exact cf_in 203 (by decide +kernel) (by decide +kernel)
  | 9, _ => exact cf_in 205 (by decide +kernel) (by decide +kernel)
  | 10, _ => exact cf_in 207 (by decide +kernel) (by decide +kernel)
  | 11, _ => exact cf_in 209 (by decide +kernel) (by decide +kernel)
  | 12, _ => exact cf_in 211 (by decide +kernel) (by decide +kernel)
  | 13, _ => exact cf_in 213 (by decide +kernel) (by decide +kernel)
  | 14, _ => exact cf_in 215 (by decide +kernel) (by decide +kernel)
  | k + 15, hk => exact absurd hk (by omega)
abbrev cX5 : vw_C := (RX5, TX5, 15)
def RX6 : String := "CellFormatter$Text"
def TX6 : u_T := fun k => match k with
  | 0 => ("CellFormatter$Text", "chars", "[C", true)
  | _ => ("CellFormatter$Text", "length", "I", false)
def tyX6 : Nat → FieldType := fun k => match k with
  | 0 => .array .char
  | _ => .int
theorem nmX6 : ∀ a, a < 2 → ∀ b, b < 2 → a ≠ b → (TX6 a).2.1 ≠ (TX6 b).2.1 := by decide +kernel
theorem tyX6_ok : ∀ k, k < 2 → parseFieldDescriptor (TX6 k).2.2.1 = some (tyX6 k) := by decide +kernel
theorem inX6 : ∀ w ∈ u_ws RX6 TX6 2, w ∈ cf_T := by
  intro w hw
  obtain ⟨k, hk, rfl⟩ := List.mem_map.mp hw
  have hk : k < 2 := List.mem_range.mp hk
  match k, hk with
  | 0, _ => exact cf_in 258 (by decide +kernel) (by decide +kernel)
  | 1, _ => exact cf_in 260 (by decide +kernel) (by decide +kernel)
  | k + 2, hk => exact absurd hk (by omega)
abbrev cX6 : vw_C := (RX6, TX6, 2)
def RX7 : String := "CellFormatter$Tokens"
def TX7 : u_T := fun k => match k with
  | 0 => ("CellFormatter$Tokens", "types", "[I", true)
  | 1 => ("CellFormatter$Tokens", "values", "[I", true)
  | 2 => ("CellFormatter$Tokens", "details", "[I", true)
  | _ => ("CellFormatter$Tokens", "size", "I", false)
def tyX7 : Nat → FieldType := fun k => match k with
  | 0 => .array .int
  | 1 => .array .int
  | 2 => .array .int
  | _ => .int
theorem nmX7 : ∀ a, a < 4 → ∀ b, b < 4 → a ≠ b → (TX7 a).2.1 ≠ (TX7 b).2.1 := by decide +kernel
theorem tyX7_ok : ∀ k, k < 4 → parseFieldDescriptor (TX7 k).2.2.1 = some (tyX7 k) := by decide +kernel
theorem inX7 : ∀ w ∈ u_ws RX7 TX7 4, w ∈ cf_T := by
  intro w hw
  obtain ⟨k, hk, rfl⟩ := List.mem_map.mp hw
  have hk : k < 4 := List.mem_range.mp hk
  match k, hk with
  | 0, _ => exact cf_in 121 (by decide +kernel) (by decide +kernel)
  | 1, _ => exact cf_in 123 (by decide +kernel) (by decide +kernel)
  | 2, _ => exact cf_in 125 (by decide +kernel) (by decide +kernel)
  | 3, _ => exact cf_in 127 (by decide +kernel) (by decide +kernel)
  | k + 4, hk => exact absurd hk (by omega)
abbrev cX7 : vw_C := (RX7, TX7, 4)
def RX8 : String := "CellFormatter"
def TX8 : u_T := fun k => match k with
  | 0 => ("CellFormatter", "code", "[C", true)
  | 1 => ("CellFormatter", "codeLength", "I", false)
  | 2 => ("CellFormatter", "tokens", "LCellFormatter$Tokens;", true)
  | 3 => ("CellFormatter", "scanner", "LCellFormatter$Scanner;", true)
  | 4 => ("CellFormatter", "parts", "[LCellFormatter$Section;", true)
  | 5 => ("CellFormatter", "partCount", "I", false)
  | 6 => ("CellFormatter", "conditional", "Z", false)
  | 7 => ("CellFormatter", "days", "LCellFormatter$Calendar;", true)
  | 8 => ("CellFormatter", "shown", "LCellFormatter$Text;", true)
  | 9 => ("CellFormatter", "shownBy", "I", false)
  | 10 => ("CellFormatter", "numbers", "LCellFormatter$NumberWriter;", true)
  | _ => ("CellFormatter", "moments", "LCellFormatter$MomentWriter;", true)
def tyX8 : Nat → FieldType := fun k => match k with
  | 0 => .array .char
  | 1 => .int
  | 2 => .object "CellFormatter$Tokens"
  | 3 => .object "CellFormatter$Scanner"
  | 4 => .array (.object "CellFormatter$Section")
  | 5 => .int
  | 6 => .boolean
  | 7 => .object "CellFormatter$Calendar"
  | 8 => .object "CellFormatter$Text"
  | 9 => .int
  | 10 => .object "CellFormatter$NumberWriter"
  | _ => .object "CellFormatter$MomentWriter"
theorem nmX8 : ∀ a, a < 12 → ∀ b, b < 12 → a ≠ b → (TX8 a).2.1 ≠ (TX8 b).2.1 := by decide +kernel
theorem tyX8_ok : ∀ k, k < 12 → parseFieldDescriptor (TX8 k).2.2.1 = some (tyX8 k) := by decide +kernel
theorem inX8 : ∀ w ∈ u_ws RX8 TX8 12, w ∈ cf_T := by
  intro w hw
  obtain ⟨k, hk, rfl⟩ := List.mem_map.mp hw
  have hk : k < 12 := List.mem_range.mp hk
  match k, hk with
  | 0, _ => exact cf_in 335 (by decide +kernel) (by decide +kernel)
  | 1, _ => exact cf_in 337 (by decide +kernel) (by decide +kernel)
  | 2, _ => exact cf_in 339 (by decide +kernel) (by decide +kernel)
  | 3, _ => exact cf_in 341 (by decide +kernel) (by decide +kernel)
  | 4, _ => exact cf_in 343 (by decide +kernel) (by decide +kernel)
  | 5, _ => exact cf_in 345 (by decide +kernel) (by decide +kernel)
  | 6, _ => exact cf_in 347 (by decide +kernel) (by decide +kernel)
  | 7, _ => exact cf_in 349 (by decide +kernel) (by decide +kernel)
  | 8, _ => exact cf_in 351 (by decide +kernel) (by decide +kernel)
  | 9, _ => exact cf_in 353 (by decide +kernel) (by decide +kernel)
  | 10, _ => exact cf_in 355 (by decide +kernel) (by decide +kernel)
  | 11, _ => exact cf_in 357 (by decide +kernel) (by decide +kernel)
  | k + 12, hk => exact absurd hk (by omega)
abbrev cX8 : vw_C := (RX8, TX8, 12)
def RX9 : String := "CellFormatterModel"
def TX9 : u_T := fun k => match k with
  | 0 => ("CellFormatterModel", "size", "I", false)
  | 1 => ("CellFormatterModel", "code", "[I", true)
  | 2 => ("CellFormatterModel", "sections", "I", false)
  | 3 => ("CellFormatterModel", "text", "[I", true)
  | 4 => ("CellFormatterModel", "tokens", "I", false)
  | 5 => ("CellFormatterModel", "type", "[I", true)
  | 6 => ("CellFormatterModel", "first", "[I", true)
  | 7 => ("CellFormatterModel", "second", "[I", true)
  | 8 => ("CellFormatterModel", "start", "[I", true)
  | 9 => ("CellFormatterModel", "is1904", "Z", false)
  | 10 => ("CellFormatterModel", "end", "I", false)
  | 11 => ("CellFormatterModel", "met", "I", false)
  | 12 => ("CellFormatterModel", "metFirst", "I", false)
  | 13 => ("CellFormatterModel", "metSecond", "I", false)
  | 14 => ("CellFormatterModel", "shownBy", "I", false)
  | 15 => ("CellFormatterModel", "shown", "I", false)
  | 16 => ("CellFormatterModel", "out", "[C", true)
  | 17 => ("CellFormatterModel", "amount", "J", false)
  | 18 => ("CellFormatterModel", "zeros", "I", false)
  | 19 => ("CellFormatterModel", "decimals", "I", false)
  | _ => ("CellFormatterModel", "power", "I", false)
def tyX9 : Nat → FieldType := fun k => match k with
  | 0 => .int
  | 1 => .array .int
  | 2 => .int
  | 3 => .array .int
  | 4 => .int
  | 5 => .array .int
  | 6 => .array .int
  | 7 => .array .int
  | 8 => .array .int
  | 9 => .boolean
  | 10 => .int
  | 11 => .int
  | 12 => .int
  | 13 => .int
  | 14 => .int
  | 15 => .int
  | 16 => .array .char
  | 17 => .long
  | 18 => .int
  | 19 => .int
  | _ => .int
theorem nmX9 : ∀ a, a < 21 → ∀ b, b < 21 → a ≠ b → (TX9 a).2.1 ≠ (TX9 b).2.1 := by decide +kernel
theorem tyX9_ok : ∀ k, k < 21 → parseFieldDescriptor (TX9 k).2.2.1 = some (tyX9 k) := by decide +kernel
theorem inX9 : ∀ w ∈ u_ws RX9 TX9 21, w ∈ cf_T := by
  intro w hw
  obtain ⟨k, hk, rfl⟩ := List.mem_map.mp hw
  have hk : k < 21 := List.mem_range.mp hk
  match k, hk with
  | 0, _ => exact cf_in 902 (by decide +kernel) (by decide +kernel)
  | 1, _ => exact cf_in 904 (by decide +kernel) (by decide +kernel)
  | 2, _ => exact cf_in 906 (by decide +kernel) (by decide +kernel)
  | 3, _ => exact cf_in 908 (by decide +kernel) (by decide +kernel)
  | 4, _ => exact cf_in 910 (by decide +kernel) (by decide +kernel)
  | 5, _ => exact cf_in 912 (by decide +kernel) (by decide +kernel)
  | 6, _ => exact cf_in 914 (by decide +kernel) (by decide +kernel)
  | 7, _ => exact cf_in 916 (by decide +kernel) (by decide +kernel)
  | 8, _ => exact cf_in 918 (by decide +kernel) (by decide +kernel)
  | 9, _ => exact cf_in 920 (by decide +kernel) (by decide +kernel)
  | 10, _ => exact cf_in 922 (by decide +kernel) (by decide +kernel)
  | 11, _ => exact cf_in 924 (by decide +kernel) (by decide +kernel)
  | 12, _ => exact cf_in 926 (by decide +kernel) (by decide +kernel)
  | 13, _ => exact cf_in 928 (by decide +kernel) (by decide +kernel)
  | 14, _ => exact cf_in 930 (by decide +kernel) (by decide +kernel)
  | 15, _ => exact cf_in 932 (by decide +kernel) (by decide +kernel)
  | 16, _ => exact cf_in 934 (by decide +kernel) (by decide +kernel)
  | 17, _ => exact cf_in 936 (by decide +kernel) (by decide +kernel)
  | 18, _ => exact cf_in 938 (by decide +kernel) (by decide +kernel)
  | 19, _ => exact cf_in 940 (by decide +kernel) (by decide +kernel)
  | 20, _ => exact cf_in 942 (by decide +kernel) (by decide +kernel)
  | k + 21, hk => exact absurd hk (by omega)
abbrev cX9 : vw_C := (RX9, TX9, 21)
def cf_cl : List vw_C := [cX0, cX1, cX2, cX3, cX4, cX5, cX6, cX7, cX8, cX9]
def cf_kd (ci k : Nat) : Nat := match ci, k with
  | 1, 0 => 1
  | 2, 0 => 2
  | 2, 1 => 2
  | 2, 2 => 1
  | 3, 0 => 2
  | 3, 1 => 2
  | 3, 2 => 2
  | 4, 0 => 2
  | 4, 1 => 2
  | 5, 4 => 1
  | 6, 0 => 2
  | 7, 0 => 2
  | 7, 1 => 2
  | 7, 2 => 2
  | 8, 0 => 2
  | 8, 2 => 2
  | 8, 3 => 2
  | 8, 4 => 2
  | 8, 7 => 2
  | 8, 8 => 2
  | 8, 10 => 2
  | 8, 11 => 2
  | 9, 1 => 2
  | 9, 3 => 2
  | 9, 5 => 2
  | 9, 6 => 2
  | 9, 7 => 2
  | 9, 8 => 2
  | 9, 16 => 2
  | 9, 17 => 1
  | _, _ => 0
def cf_N (ci : Nat) : Nat := match ci with
  | 0 => 5
  | 1 => 2
  | 2 => 4
  | 3 => 7
  | 4 => 3
  | 5 => 15
  | 6 => 2
  | 7 => 4
  | 8 => 12
  | 9 => 21
  | _ => 0
end
section
/-! THE PURE PICTURE: int-like fields, long fields, reference fields, arrays; by object number -/
abbrev cf_H : Type := (Nat → Nat → Int32) × (Nat → Nat → Int64) × (Nat → Nat → Option Nat) × (Nat → Nat → Int32)
/-- a method: its name, its code, its locals, its answer's type, the frames and locals of its room -/
abbrev cf_M : Type := MethodName × ByteArray × Nat × Option FieldType × Nat × Nat
def cf_own (M : cf_M) : String := M.1.cls
def cf_code (M : cf_M) : ByteArray := M.2.1
def cf_mL (M : cf_M) : Nat := M.2.2.1
def cf_ret (M : cf_M) : Option FieldType := M.2.2.2.1
def cf_rm (M : cf_M) : Room := { frames := M.2.2.2.2.1, cells := 0, slots := 0, locals := M.2.2.2.2.2 }
def cf_wsM (M : cf_M) : List Cond := .code M.1 (cf_code M) (cf_mL M) (cf_ret M) :: cf_T
def cf_u2 {α : Type} (f : Nat → Nat → α) (o k : Nat) (v : α) : Nat → Nat → α := fun a b => bif (Nat.beq a o && Nat.beq b k) then v else f a b
def cf_u1 {α : Type} (f : Nat → α) (o : Nat) (v : α) : Nat → α := fun a => bif Nat.beq a o then v else f a
theorem cf_beq {a b : Nat} (h : a ≠ b) : Nat.beq a b = false := by
  cases e : Nat.beq a b with
  | false => rfl
  | true => exact absurd (Nat.eq_of_beq_eq_true e) h
theorem cf_u2_same {α : Type} (f : Nat → Nat → α) (o k : Nat) (v : α) : cf_u2 f o k v o k = v := by simp [cf_u2]
theorem cf_u2_o {α : Type} (f : Nat → Nat → α) {o k a b : Nat} (v : α) (h : a ≠ o) : cf_u2 f o k v a b = f a b := by simp [cf_u2, cf_beq h]
theorem cf_u2_k {α : Type} (f : Nat → Nat → α) {o k a b : Nat} (v : α) (h : b ≠ k) : cf_u2 f o k v a b = f a b := by simp [cf_u2, cf_beq h]
theorem cf_u1_same {α : Type} (f : Nat → α) (o : Nat) (v : α) : cf_u1 f o v o = v := by simp [cf_u1]
theorem cf_u1_o {α : Type} (f : Nat → α) {o a : Nat} (v : α) (h : a ≠ o) : cf_u1 f o v a = f a := by simp [cf_u1, cf_beq h]
def cf_pI (h : cf_H) (o k : Nat) (x : Int32) : cf_H := (cf_u2 h.1 o k x, h.2)
def cf_pJ (h : cf_H) (o k : Nat) (x : Int64) : cf_H := (h.1, cf_u2 h.2.1 o k x, h.2.2)
def cf_pR (h : cf_H) (o k : Nat) (x : Option Nat) : cf_H := (h.1, h.2.1, cf_u2 h.2.2.1 o k x, h.2.2.2)
def cf_pA (h : cf_H) (o : Nat) (i : Int32) (x : Int32) : cf_H := (h.1, h.2.1, h.2.2.1, cf_u1 h.2.2.2 o (upd (h.2.2.2 o) i.toNatClampNeg x))
/-- the objects: of a class, or an array of a type (0 int, 1 char, 2 Section) and a length -/
def cf_shl : List (Nat ⊕ (Nat × Nat)) := [.inl 8, .inr (1, 40), .inl 7, .inr (0, 40), .inr (0, 40), .inr (0, 40), .inl 4, .inr (1, 0), .inr (2, 3), .inl 5, .inl 5, .inl 5, .inl 0, .inl 6, .inr (1, 256), .inl 3, .inl 1, .inl 1, .inl 2, .inl 9, .inr (0, 40), .inr (0, 40), .inr (0, 40), .inr (0, 40), .inr (0, 40), .inr (0, 42), .inr (1, 600)]
def cf_RA (j : Nat) : Option Nat := match j with | 0 => some 9 | 1 => some 10 | _ => some 11
abbrev cf_G : Type := (Nat → Nat) × va_G × (Nat → ClassId)
def cf_tr (ad : Nat → Nat) (v : Value) : Value := match v with | .ref k => .ref (ad k) | w => w
def cf_fv (ad : Nat → Nat) (h : cf_H) (o ci k : Nat) : Value := match cf_kd ci k with
  | 0 => .int (h.1 o k)
  | 1 => .long (h.2.1 o k)
  | _ => va_rf ((h.2.2.1 o k).map ad)
def cf_cell (g : cf_G) (h : cf_H) (o : Nat) (s : Nat ⊕ (Nat × Nat)) : va_E := match s with
  | .inl ci => .inr (ci, (List.range (cf_N ci)).map (cf_fv g.1 h o ci))
  | .inr (t, n) => .inl (g.2.2 t, n, match t with | 2 => .inr (.inr (.inr (.inr (fun j => (cf_RA j).map g.1)))) | _ => .inl (h.2.2.2 o))
def cf_ws (g : cf_G) (h : cf_H) : va_W := cf_shl.mapIdx (fun o s => (g.1 o, cf_cell g h o s))
def cf_tys (dA : Nat → ClassId) : List (ClassId × FieldType) := [(dA 0, .int), (dA 1, .char), (dA 2, .object "CellFormatter$Section")]
def cf_A (ad : Nat → Nat) : Nat → Prop := fun q => ∃ k, k < 27 ∧ q = ad k
/-! constants: statics, static arrays (100, 101), String constants (110 + i, their bytes 130 + i) -/
def cf_sts : List (String × String × String × Value) := [("java/lang/String", "COMPACT_STRINGS", "Z", .int 1), ("CellFormatter", "POWERS", "[J", .ref 100), ("CellFormatter$Calendar", "MONTH_LENGTHS", "[I", .ref 101)]
def cf_pw : List Int64 := [1, 10, 100, 1000, 10000, 100000, 1000000, 10000000, 100000000, 1000000000, 10000000000, 100000000000, 1000000000000, 10000000000000, 100000000000000, 1000000000000000, 10000000000000000, 100000000000000000, 1000000000000000000]
def cf_ml : List Int32 := [31, 28, 31, 30, 31, 30, 31, 31, 30, 31, 30, 31]
def cf_byt : List (List Int32) := [[104, 109, 115], [65, 77, 47, 80, 77], [121, 109, 100, 104, 115], [32, 33, 36, 38, 39, 40, 41, 43, 45, 47, 58, 61, 94, 123, 125, 126], [48, 35, 63], [74, 97, 110, 70, 101, 98, 77, 97, 114, 65, 112, 114, 77, 97, 121, 74, 117, 110, 74, 117, 108, 65, 117, 103, 83, 101, 112, 79, 99, 116, 78, 111, 118, 68, 101, 99], [83, 117, 110, 77, 111, 110, 84, 117, 101, 87, 101, 100, 84, 104, 117, 70, 114, 105, 83, 97, 116]]
def cf_strs : List (String × Nat × String) := [("CellFormatter$Scanner", 75, "hms"), ("CellFormatter$Scanner", 87, "AM/PM"), ("CellFormatter$Scanner", 57, "ymdhs"), ("CellFormatter$Scanner", 99, " !$&'()+-/:=^{}~"), ("CellFormatter$Scanner", 101, "0#?"), ("CellFormatter$MomentWriter", 108, "JanFebMarAprMayJunJulAugSepOctNovDec"), ("CellFormatter$MomentWriter", 117, "SunMonTueWedThuFriSat")]
def cf_ka (k : Nat) : Option (FieldType × Nat × (Nat → Value)) := match k with
  | 100 => some (.long, 19, fun j => .long (cf_pw.getD j 0))
  | 101 => some (.int, 12, fun j => .int (cf_ml.getD j 0))
  | 130 => some (.byte, 3, fun j => .int ((cf_byt.getD 0 []).getD j 0))
  | 131 => some (.byte, 5, fun j => .int ((cf_byt.getD 1 []).getD j 0))
  | 132 => some (.byte, 5, fun j => .int ((cf_byt.getD 2 []).getD j 0))
  | 133 => some (.byte, 16, fun j => .int ((cf_byt.getD 3 []).getD j 0))
  | 134 => some (.byte, 3, fun j => .int ((cf_byt.getD 4 []).getD j 0))
  | 135 => some (.byte, 36, fun j => .int ((cf_byt.getD 5 []).getD j 0))
  | 136 => some (.byte, 21, fun j => .int ((cf_byt.getD 6 []).getD j 0))
  | _ => none
def cf_CK (g : cf_G) (U : State) (H : Heap) : Prop := (∀ q ∈ cf_sts, va_Z q.1 q.2.1 q.2.2.1 (cf_tr g.1 q.2.2.2) (cf_A g.1) U H) ∧ (∀ k ty n f, cf_ka k = some (ty, n, f) → va_T ty (g.1 k) n f (cf_A g.1) U H) ∧ (∀ i own idx tx, cf_strs[i]? = some (own, idx, tx) → vk_R own idx tx (g.1 (110 + i)) U ∧ va_O "java/lang/String" (g.1 (110 + i)) (cf_A g.1) U H ∧ va_OF "java/lang/String" "coder" "B" (.int 0) (g.1 (110 + i)) (cf_A g.1) U H ∧ va_OF "java/lang/String" "value" "[B" (.ref (g.1 (130 + i))) (g.1 (110 + i)) (cf_A g.1) U H) ∧ (va_Z "jdk/internal/util/Preconditions" "SIOOBE_FORMATTER" "Ljava/util/function/BiFunction;" .null (cf_A g.1) U H ∨ va_Z "jdk/internal/util/Preconditions" "SIOOBE_FORMATTER" "Ljava/util/function/BiFunction;" (.ref (g.1 199)) (cf_A g.1) U H)
def cf_inj (g : cf_G) : Prop := ∀ i j, i < 27 → j < 27 → g.1 i = g.1 j → i = j
def cf_E (g : cf_G) (U : State) (H : Heap) : Prop := va_K g.2.1 cf_cl (cf_tys g.2.2) U ∧ cf_CK g U H ∧ cf_inj g
/-- what holds at a method's entry -/
def cf_C (g : cf_G) (M : cf_M) (p : Program) (s : State) (m : MethodId) (args : Array Value) (meth : Method) (c : Code) : Prop :=
  p.tables.exec = Jvm.exec ∧ c.code = cf_code M ∧ c.maxLocals = cf_mL M ∧ meth.sig.returnType = cf_ret M ∧ s.vm.findClass (cf_own M) = some m.cls ∧ (∀ w ∈ cf_T, w.before args s = true) ∧ meth.locks = false ∧ cf_E g s s.heap
def cf_lk : List (Nat × Value) → Nat → Option Value
  | [], _ => none
  | (j, v) :: l, i => bif Nat.beq j i then some v else cf_lk l i
def cf_L (ad : Nat → Nat) (ls : Array Slot) (nL : Nat) (lv : List (Nat × Value)) : Prop := ∃ l, lv_has ls nL l ∧ ∀ i v, cf_lk lv i = some v → v ≠ .null → (i, cf_tr ad v) ∈ l
def cf_Qc (g : cf_G) (P : Option Value → cf_H → Prop) : Array Value → State → Outcome → State → Prop := fun _ st o t => (∃ (r : Option Value) (h' : cf_H), o = .returned (r.map (cf_tr g.1)) ∧ P r h' ∧ va_P g.2.1 cf_cl (cf_ws g h') t.heap) ∧ va_F (cf_A g.1) st t
/-- THE JUDGEMENT: method M, at pc, with locals lv, stack st, in picture h, returns, and its answer and picture meet P -/
def RP (M : cf_M) (pc : Nat) (lv : List (Nat × Value)) (st : List Value) (h : cf_H) (P : Option Value → cf_H → Prop) : Prop :=
  ∀ (g : cf_G) (p : Program) (l : Launch) (e : Env) (s : State) (m : MethodId) (args : Array Value) (below : List Frame) (meth : Method) (c : Code), cf_C g M p s m args meth c →
    ∀ (H : Heap) (locs : List Loc) (ls : Array Slot), va_P g.2.1 cf_cl (cf_ws g h) H → va_S (cf_A g.1) s.heap H locs → cf_L g.1 ls (cf_mL M) lv →
      W p l e (cf_rm M) s m args below meth c H locs 0 0 (MQ below (cf_Qc g P) args s 0 0 (cf_A g.1)) (F0 m pc ls (st.map (cf_tr g.1)))
def cf_D (M : cf_M) (pc : Nat) (i : Instr) (n pc' : Nat) : Prop := decode (cf_code M) pc = .ok (i, n) ∧ pc + n = pc'
/-! the world's rows -/
theorem cf_ws_at {g : cf_G} {h : cf_H} {o : Nat} {sh : Nat ⊕ (Nat × Nat)} (ho : cf_shl[o]? = some sh) : (cf_ws g h)[o]? = some (g.1 o, cf_cell g h o sh) := by
  simp [cf_ws, ho]
theorem cf_ws_of {g : cf_G} {h : cf_H} {o : Nat} {q : Nat × va_E} (hq : (cf_ws g h)[o]? = some q) : q.1 = g.1 o ∧ o < 27 := by
  unfold cf_ws at hq
  rw [List.getElem?_mapIdx] at hq
  cases hs : cf_shl[o]? with
  | none => rw [hs] at hq; cases hq
  | some sh =>
    rw [hs] at hq
    cases hq
    have := (List.getElem?_eq_some_iff.mp hs).1
    exact ⟨rfl, this⟩
theorem cf_wD {g : cf_G} (h : cf_H) (hi : cf_inj g) : va_D (cf_A g.1) (cf_ws g h) := by
  refine ⟨fun i j p q hp hq e => ?_, fun k q hq => ?_⟩
  · obtain ⟨e1, h1⟩ := cf_ws_of hp
    obtain ⟨e2, h2⟩ := cf_ws_of hq
    exact hi i j h1 h2 (by rw [← e1, ← e2]; exact e)
  · obtain ⟨e1, h1⟩ := cf_ws_of hq
    exact ⟨k, h1, e1⟩
theorem cf_ws_set {g : cf_G} {h h' : cf_H} {o : Nat} {sh : Nat ⊕ (Nat × Nat)} {E : va_E} (ho : cf_shl[o]? = some sh) (hn : cf_cell g h' o sh = E) (hoth : ∀ a z, cf_shl[a]? = some z → a ≠ o → cf_cell g h' a z = cf_cell g h a z) : (cf_ws g h).set o (g.1 o, E) = cf_ws g h' := by
  apply List.ext_getElem?
  intro a
  rw [List.getElem?_set]
  by_cases ha : o = a
  · subst ha
    rw [cf_ws_at (h := h') ho, hn]
    have hlt : o < (cf_ws g h).length := by
      unfold cf_ws; rw [List.length_mapIdx]; exact (List.getElem?_eq_some_iff.mp ho).1
    simp [hlt]
  · rw [if_neg ha]
    unfold cf_ws
    rw [List.getElem?_mapIdx, List.getElem?_mapIdx]
    cases hz : cf_shl[a]? with
    | none => rfl
    | some z => simp only [Option.map_some]; rw [hoth a z hz (fun e => ha e.symm)]
theorem cf_fld_at {g : cf_G} {h : cf_H} {o ci k N : Nat} (hN : cf_N ci = N) (hk : k < N) : ((List.range (cf_N ci)).map (cf_fv g.1 h o ci))[k]? = some (cf_fv g.1 h o ci k) := by
  rw [List.getElem?_map, List.getElem?_range (by omega)]; rfl
theorem cf_fld_set {g : cf_G} {h h' : cf_H} {o ci k N : Nat} {v : Value} (hN : cf_N ci = N) (hk : k < N) (hv : cf_fv g.1 h' o ci k = v) (hoth : ∀ j, j ≠ k → cf_fv g.1 h' o ci j = cf_fv g.1 h o ci j) : (List.range (cf_N ci)).map (cf_fv g.1 h' o ci) = ((List.range (cf_N ci)).map (cf_fv g.1 h o ci)).set k v := by
  apply List.ext_getElem?
  intro a
  rw [List.getElem?_set]
  by_cases ha : k = a
  · subst ha
    rw [cf_fld_at hN hk, hv]
    simp [hN, hk]
  · rw [if_neg ha, List.getElem?_map, List.getElem?_map]
    by_cases hz : a < cf_N ci
    · rw [List.getElem?_range hz]
      simp only [Option.map_some]
      rw [hoth a (fun e => ha e.symm)]
    · rw [List.getElem?_eq_none (by simpa using hz)]
      rfl


theorem cf_tr_i (ad : Nat → Nat) (x : Int32) : cf_tr ad (.int x) = .int x := rfl
theorem cf_fv0 {ad : Nat → Nat} {h : cf_H} {o ci k : Nat} (hk : cf_kd ci k = 0) : cf_fv ad h o ci k = .int (h.1 o k) := by unfold cf_fv; rw [hk]; rfl
theorem cf_fv1 {ad : Nat → Nat} {h : cf_H} {o ci k : Nat} (hk : cf_kd ci k = 1) : cf_fv ad h o ci k = .long (h.2.1 o k) := by unfold cf_fv; rw [hk]; rfl
theorem cf_fv2 {ad : Nat → Nat} {h : cf_H} {o ci k : Nat} (hk : cf_kd ci k = 2) : cf_fv ad h o ci k = va_rf ((h.2.2.1 o k).map ad) := by unfold cf_fv; rw [hk]; rfl
/-! locals -/
theorem cf_L.at {ad : Nat → Nat} {ls : Array Slot} {nL : Nat} {lv : List (Nat × Value)} (h : cf_L ad ls nL lv) {i : Nat} {v : Value} (hl : cf_lk lv i = some v) (hv : v ≠ .null) : ls[i]? = some (.val (cf_tr ad v)) := by
  obtain ⟨l, h1, h2⟩ := h
  exact h1.2.2 _ (h2 i v hl hv)
theorem cf_L.sub {ad : Nat → Nat} {ls : Array Slot} {nL : Nat} {lv lv' : List (Nat × Value)} (h : cf_L ad ls nL lv) (hs : ∀ q ∈ lv', cf_lk lv q.1 = some q.2) : cf_L ad ls nL lv' := by
  obtain ⟨l, h1, h2⟩ := h
  refine ⟨l, h1, fun i v hi hv => h2 i v ?_ hv⟩
  have : ∀ (q : List (Nat × Value)), cf_lk q i = some v → (i, v) ∈ q := by
    intro q
    induction q with
    | nil => intro e; cases e
    | cons a t ih =>
      obtain ⟨j, w⟩ := a
      intro e
      unfold cf_lk at e
      cases hb : Nat.beq j i with
      | true =>
        rw [hb] at e
        have : j = i := Nat.eq_of_beq_eq_true hb
        subst this
        cases e
        exact List.mem_cons_self
      | false =>
        rw [hb] at e
        exact List.mem_cons_of_mem _ (ih e)
  exact hs (i, v) (this lv' hi)
def cf_nl (lv : List (Nat × Value)) (i : Nat) : Bool := match i with
  | 0 => true
  | j + 1 => match cf_lk lv j with
    | some (.long _) => false
    | some (.double _) => false
    | _ => true
theorem cf_tr_cat (ad : Nat → Nat) (v : Value) : (cf_tr ad v).category = v.category := by cases v <;> rfl
theorem cf_L.st1 {ad : Nat → Nat} {ls' : Array Slot} {nL : Nat} {lv l : List (Nat × Value)} {i : Nat} {v : Value} (hn : cf_nl lv i = true) (h2 : ∀ i v, cf_lk lv i = some v → v ≠ .null → (i, cf_tr ad v) ∈ l) (h' : lv_has ls' nL ((i, cf_tr ad v) :: l.filter (fun q => !(q.1 == i) && !(q.1 + 1 == i && q.2.category == 2)))) : cf_L ad ls' nL ((i, v) :: lv) := by
  refine ⟨_, h', fun j w hj hw => ?_⟩
  unfold cf_lk at hj
  cases hb : Nat.beq i j with
  | true =>
    rw [hb] at hj
    have : i = j := Nat.eq_of_beq_eq_true hb
    subst this
    cases hj
    exact List.mem_cons_self
  | false =>
    rw [hb] at hj
    have hne : j ≠ i := fun e => by subst e; simp at hb
    refine List.mem_cons_of_mem _ (List.mem_filter.mpr ⟨h2 j w hj hw, ?_⟩)
    simp only [Bool.and_eq_true, Bool.not_eq_true', beq_eq_false_iff_ne, Bool.and_eq_false_iff]
    refine ⟨hne, ?_⟩
    by_cases e : j + 1 = i
    · right
      subst e
      rw [cf_tr_cat]
      have hj : cf_lk lv j = some w := hj
      unfold cf_nl at hn
      simp only [hj] at hn
      cases w <;> simp_all [Value.category]
    · left; exact e
theorem cf_L.st2 {ad : Nat → Nat} {ls' : Array Slot} {nL : Nat} {lv l : List (Nat × Value)} {i : Nat} {v : Value} (hn : cf_nl lv i = true) (h2 : ∀ i v, cf_lk lv i = some v → v ≠ .null → (i, cf_tr ad v) ∈ l) (h' : lv_has ls' nL ((i, cf_tr ad v) :: l.filter (fun q => !(q.1 == i) && (!(q.1 == i + 1) && !(q.1 + 1 == i && q.2.category == 2))))) : cf_L ad ls' nL ((i, v) :: (i + 1, .null) :: lv) := by
  refine ⟨_, h', fun j w hj hw => ?_⟩
  unfold cf_lk at hj
  cases hb : Nat.beq i j with
  | true =>
    rw [hb] at hj
    have : i = j := Nat.eq_of_beq_eq_true hb
    subst this
    cases hj
    exact List.mem_cons_self
  | false =>
    rw [hb] at hj
    have hne : j ≠ i := fun e => by subst e; simp at hb
    have hj2 : cf_lk ((i + 1, .null) :: lv) j = some w := hj
    unfold cf_lk at hj2
    cases hc : Nat.beq (i + 1) j with
    | true =>
      rw [hc] at hj2
      cases hj2
      exact absurd rfl hw
    | false =>
      rw [hc] at hj2
      have hne2 : j ≠ i + 1 := fun e => by subst e; simp at hc
      refine List.mem_cons_of_mem _ (List.mem_filter.mpr ⟨h2 j w hj2 hw, ?_⟩)
      simp only [Bool.and_eq_true, Bool.not_eq_true', beq_eq_false_iff_ne, Bool.and_eq_false_iff]
      refine ⟨hne, hne2, ?_⟩
      by_cases e : j + 1 = i
      · right
        subst e
        rw [cf_tr_cat]
        have hj3 : cf_lk lv j = some w := hj2
        unfold cf_nl at hn
        simp only [hj3] at hn
        cases w <;> simp_all [Value.category]
      · left; exact e
/-! rows: a locals' list may be changed for one that says less -/
theorem rp_lv {M : cf_M} {pc : Nat} {lv : List (Nat × Value)} {st : List Value} {h : cf_H} {P : Option Value → cf_H → Prop} (lv' : List (Nat × Value)) (hs : lv'.map (fun q => cf_lk lv q.1) = lv'.map (fun q => some q.2)) (k : RP M pc lv' st h P) : RP M pc lv st h P := by
  intro g p l e s m args below meth c C H locs ls hP hS hL
  refine k g p l e s m args below meth c C H locs ls hP hS (hL.sub fun q hq => ?_)
  obtain ⟨n, hn⟩ := List.getElem?_of_mem hq
  have := congrArg (fun z => z[n]?) hs
  simp only [List.getElem?_map, hn, Option.map_some] at this
  exact Option.some.inj this
theorem rp_mono {M : cf_M} {pc : Nat} {lv : List (Nat × Value)} {st : List Value} {h : cf_H} {P P' : Option Value → cf_H → Prop} (hm : ∀ r h, P r h → P' r h) (k : RP M pc lv st h P) : RP M pc lv st h P' := by
  intro g p l e s m args below meth c C H locs ls hP hS hL T hT X
  obtain ⟨t, h1, o, h2, h3, ⟨⟨r, h', e1, e2, e3⟩, e4⟩, h5⟩ := k g p l e s m args below meth c C H locs ls hP hS hL T hT X
  exact ⟨t, h1, o, h2, h3, ⟨⟨r, h', e1, hm r h' e2, e3⟩, e4⟩, h5⟩

theorem rp_iadd {M : cf_M} {pc pc' : Nat} {lv : List (Nat × Value)} {st : List Value} {h : cf_H} {P : Option Value → cf_H → Prop} {x y : Int32} (hd : cf_D M pc (.iadd) 1 pc') (k : RP M pc' lv (.int (x + y) :: st) h P) : RP M pc lv (.int y :: .int x :: st) h P := by
  intro g p l e s m args below meth c C H locs ls hP hS hL
  obtain ⟨hd, rfl⟩ := hd
  obtain ⟨hx, hb, hml, hr, hown, hts, hlk, hK, hCK, hi⟩ := C
  exact lv_iadd hx hb hd (k g p l e s m args below meth c ⟨hx, hb, hml, hr, hown, hts, hlk, hK, hCK, hi⟩ H locs ls hP hS hL)
theorem rp_isub {M : cf_M} {pc pc' : Nat} {lv : List (Nat × Value)} {st : List Value} {h : cf_H} {P : Option Value → cf_H → Prop} {x y : Int32} (hd : cf_D M pc (.isub) 1 pc') (k : RP M pc' lv (.int (x - y) :: st) h P) : RP M pc lv (.int y :: .int x :: st) h P := by
  intro g p l e s m args below meth c C H locs ls hP hS hL
  obtain ⟨hd, rfl⟩ := hd
  obtain ⟨hx, hb, hml, hr, hown, hts, hlk, hK, hCK, hi⟩ := C
  exact lv_isub hx hb hd (k g p l e s m args below meth c ⟨hx, hb, hml, hr, hown, hts, hlk, hK, hCK, hi⟩ H locs ls hP hS hL)
theorem rp_imul {M : cf_M} {pc pc' : Nat} {lv : List (Nat × Value)} {st : List Value} {h : cf_H} {P : Option Value → cf_H → Prop} {x y : Int32} (hd : cf_D M pc (.imul) 1 pc') (k : RP M pc' lv (.int (x * y) :: st) h P) : RP M pc lv (.int y :: .int x :: st) h P := by
  intro g p l e s m args below meth c C H locs ls hP hS hL
  obtain ⟨hd, rfl⟩ := hd
  obtain ⟨hx, hb, hml, hr, hown, hts, hlk, hK, hCK, hi⟩ := C
  exact lv_imul hx hb hd (k g p l e s m args below meth c ⟨hx, hb, hml, hr, hown, hts, hlk, hK, hCK, hi⟩ H locs ls hP hS hL)
theorem rp_iand {M : cf_M} {pc pc' : Nat} {lv : List (Nat × Value)} {st : List Value} {h : cf_H} {P : Option Value → cf_H → Prop} {x y : Int32} (hd : cf_D M pc (.iand) 1 pc') (k : RP M pc' lv (.int (x &&& y) :: st) h P) : RP M pc lv (.int y :: .int x :: st) h P := by
  intro g p l e s m args below meth c C H locs ls hP hS hL
  obtain ⟨hd, rfl⟩ := hd
  obtain ⟨hx, hb, hml, hr, hown, hts, hlk, hK, hCK, hi⟩ := C
  exact lv_iand hx hb hd (k g p l e s m args below meth c ⟨hx, hb, hml, hr, hown, hts, hlk, hK, hCK, hi⟩ H locs ls hP hS hL)
theorem rp_ior {M : cf_M} {pc pc' : Nat} {lv : List (Nat × Value)} {st : List Value} {h : cf_H} {P : Option Value → cf_H → Prop} {x y : Int32} (hd : cf_D M pc (.ior) 1 pc') (k : RP M pc' lv (.int (x ||| y) :: st) h P) : RP M pc lv (.int y :: .int x :: st) h P := by
  intro g p l e s m args below meth c C H locs ls hP hS hL
  obtain ⟨hd, rfl⟩ := hd
  obtain ⟨hx, hb, hml, hr, hown, hts, hlk, hK, hCK, hi⟩ := C
  exact lv_ior hx hb hd (k g p l e s m args below meth c ⟨hx, hb, hml, hr, hown, hts, hlk, hK, hCK, hi⟩ H locs ls hP hS hL)
theorem rp_ixor {M : cf_M} {pc pc' : Nat} {lv : List (Nat × Value)} {st : List Value} {h : cf_H} {P : Option Value → cf_H → Prop} {x y : Int32} (hd : cf_D M pc (.ixor) 1 pc') (k : RP M pc' lv (.int (x ^^^ y) :: st) h P) : RP M pc lv (.int y :: .int x :: st) h P := by
  intro g p l e s m args below meth c C H locs ls hP hS hL
  obtain ⟨hd, rfl⟩ := hd
  obtain ⟨hx, hb, hml, hr, hown, hts, hlk, hK, hCK, hi⟩ := C
  exact lv_ixor hx hb hd (k g p l e s m args below meth c ⟨hx, hb, hml, hr, hown, hts, hlk, hK, hCK, hi⟩ H locs ls hP hS hL)
theorem rp_ishl {M : cf_M} {pc pc' : Nat} {lv : List (Nat × Value)} {st : List Value} {h : cf_H} {P : Option Value → cf_H → Prop} {x y : Int32} (hd : cf_D M pc (.ishl) 1 pc') (k : RP M pc' lv (.int (x <<< (y &&& 31)) :: st) h P) : RP M pc lv (.int y :: .int x :: st) h P := by
  intro g p l e s m args below meth c C H locs ls hP hS hL
  obtain ⟨hd, rfl⟩ := hd
  obtain ⟨hx, hb, hml, hr, hown, hts, hlk, hK, hCK, hi⟩ := C
  exact lv_ishl hx hb hd (k g p l e s m args below meth c ⟨hx, hb, hml, hr, hown, hts, hlk, hK, hCK, hi⟩ H locs ls hP hS hL)
theorem rp_ishr {M : cf_M} {pc pc' : Nat} {lv : List (Nat × Value)} {st : List Value} {h : cf_H} {P : Option Value → cf_H → Prop} {x y : Int32} (hd : cf_D M pc (.ishr) 1 pc') (k : RP M pc' lv (.int (x >>> (y &&& 31)) :: st) h P) : RP M pc lv (.int y :: .int x :: st) h P := by
  intro g p l e s m args below meth c C H locs ls hP hS hL
  obtain ⟨hd, rfl⟩ := hd
  obtain ⟨hx, hb, hml, hr, hown, hts, hlk, hK, hCK, hi⟩ := C
  exact lv_ishr hx hb hd (k g p l e s m args below meth c ⟨hx, hb, hml, hr, hown, hts, hlk, hK, hCK, hi⟩ H locs ls hP hS hL)
theorem rp_iushr {M : cf_M} {pc pc' : Nat} {lv : List (Nat × Value)} {st : List Value} {h : cf_H} {P : Option Value → cf_H → Prop} {x y : Int32} (hd : cf_D M pc (.iushr) 1 pc') (k : RP M pc' lv (.int (x.toUInt32 >>> (y.toUInt32 &&& Int32.toUInt32 31)).toInt32 :: st) h P) : RP M pc lv (.int y :: .int x :: st) h P := by
  intro g p l e s m args below meth c C H locs ls hP hS hL
  obtain ⟨hd, rfl⟩ := hd
  obtain ⟨hx, hb, hml, hr, hown, hts, hlk, hK, hCK, hi⟩ := C
  exact lv_iushr hx hb hd rfl (k g p l e s m args below meth c ⟨hx, hb, hml, hr, hown, hts, hlk, hK, hCK, hi⟩ H locs ls hP hS hL)
theorem rp_idiv {M : cf_M} {pc pc' : Nat} {lv : List (Nat × Value)} {st : List Value} {h : cf_H} {P : Option Value → cf_H → Prop} {x y : Int32} (hd : cf_D M pc (.idiv) 1 pc') (hne : ¬ y = 0) (k : RP M pc' lv (.int (x / y) :: st) h P) : RP M pc lv (.int y :: .int x :: st) h P := by
  intro g p l e s m args below meth c C H locs ls hP hS hL
  obtain ⟨hd, rfl⟩ := hd
  obtain ⟨hx, hb, hml, hr, hown, hts, hlk, hK, hCK, hi⟩ := C
  exact lv_idiv hx hb hd hne (k g p l e s m args below meth c ⟨hx, hb, hml, hr, hown, hts, hlk, hK, hCK, hi⟩ H locs ls hP hS hL)
theorem rp_irem {M : cf_M} {pc pc' : Nat} {lv : List (Nat × Value)} {st : List Value} {h : cf_H} {P : Option Value → cf_H → Prop} {x y : Int32} (hd : cf_D M pc (.irem) 1 pc') (hne : ¬ y = 0) (k : RP M pc' lv (.int (x - x / y * y) :: st) h P) : RP M pc lv (.int y :: .int x :: st) h P := by
  intro g p l e s m args below meth c C H locs ls hP hS hL
  obtain ⟨hd, rfl⟩ := hd
  obtain ⟨hx, hb, hml, hr, hown, hts, hlk, hK, hCK, hi⟩ := C
  exact lv_irem hx hb hd hne (k g p l e s m args below meth c ⟨hx, hb, hml, hr, hown, hts, hlk, hK, hCK, hi⟩ H locs ls hP hS hL)
theorem rp_ineg {M : cf_M} {pc pc' : Nat} {lv : List (Nat × Value)} {st : List Value} {h : cf_H} {P : Option Value → cf_H → Prop} {x : Int32} (hd : cf_D M pc (.ineg) 1 pc') (k : RP M pc' lv (.int (-x) :: st) h P) : RP M pc lv (.int x :: st) h P := by
  intro g p l e s m args below meth c C H locs ls hP hS hL
  obtain ⟨hd, rfl⟩ := hd
  obtain ⟨hx, hb, hml, hr, hown, hts, hlk, hK, hCK, hi⟩ := C
  exact lv_ineg hx hb hd (k g p l e s m args below meth c ⟨hx, hb, hml, hr, hown, hts, hlk, hK, hCK, hi⟩ H locs ls hP hS hL)
theorem rp_ladd {M : cf_M} {pc pc' : Nat} {lv : List (Nat × Value)} {st : List Value} {h : cf_H} {P : Option Value → cf_H → Prop} {x y : Int64} (hd : cf_D M pc (.ladd) 1 pc') (k : RP M pc' lv (.long (x + y) :: st) h P) : RP M pc lv (.long y :: .long x :: st) h P := by
  intro g p l e s m args below meth c C H locs ls hP hS hL
  obtain ⟨hd, rfl⟩ := hd
  obtain ⟨hx, hb, hml, hr, hown, hts, hlk, hK, hCK, hi⟩ := C
  exact lv_ladd hx hb hd (k g p l e s m args below meth c ⟨hx, hb, hml, hr, hown, hts, hlk, hK, hCK, hi⟩ H locs ls hP hS hL)
theorem rp_lsub {M : cf_M} {pc pc' : Nat} {lv : List (Nat × Value)} {st : List Value} {h : cf_H} {P : Option Value → cf_H → Prop} {x y : Int64} (hd : cf_D M pc (.lsub) 1 pc') (k : RP M pc' lv (.long (x - y) :: st) h P) : RP M pc lv (.long y :: .long x :: st) h P := by
  intro g p l e s m args below meth c C H locs ls hP hS hL
  obtain ⟨hd, rfl⟩ := hd
  obtain ⟨hx, hb, hml, hr, hown, hts, hlk, hK, hCK, hi⟩ := C
  exact lv_lsub hx hb hd (k g p l e s m args below meth c ⟨hx, hb, hml, hr, hown, hts, hlk, hK, hCK, hi⟩ H locs ls hP hS hL)
theorem rp_lmul {M : cf_M} {pc pc' : Nat} {lv : List (Nat × Value)} {st : List Value} {h : cf_H} {P : Option Value → cf_H → Prop} {x y : Int64} (hd : cf_D M pc (.lmul) 1 pc') (k : RP M pc' lv (.long (x * y) :: st) h P) : RP M pc lv (.long y :: .long x :: st) h P := by
  intro g p l e s m args below meth c C H locs ls hP hS hL
  obtain ⟨hd, rfl⟩ := hd
  obtain ⟨hx, hb, hml, hr, hown, hts, hlk, hK, hCK, hi⟩ := C
  exact lv_lmul hx hb hd (k g p l e s m args below meth c ⟨hx, hb, hml, hr, hown, hts, hlk, hK, hCK, hi⟩ H locs ls hP hS hL)
theorem rp_land {M : cf_M} {pc pc' : Nat} {lv : List (Nat × Value)} {st : List Value} {h : cf_H} {P : Option Value → cf_H → Prop} {x y : Int64} (hd : cf_D M pc (.land) 1 pc') (k : RP M pc' lv (.long (x &&& y) :: st) h P) : RP M pc lv (.long y :: .long x :: st) h P := by
  intro g p l e s m args below meth c C H locs ls hP hS hL
  obtain ⟨hd, rfl⟩ := hd
  obtain ⟨hx, hb, hml, hr, hown, hts, hlk, hK, hCK, hi⟩ := C
  exact lv_land hx hb hd (k g p l e s m args below meth c ⟨hx, hb, hml, hr, hown, hts, hlk, hK, hCK, hi⟩ H locs ls hP hS hL)
theorem rp_lor {M : cf_M} {pc pc' : Nat} {lv : List (Nat × Value)} {st : List Value} {h : cf_H} {P : Option Value → cf_H → Prop} {x y : Int64} (hd : cf_D M pc (.lor) 1 pc') (k : RP M pc' lv (.long (x ||| y) :: st) h P) : RP M pc lv (.long y :: .long x :: st) h P := by
  intro g p l e s m args below meth c C H locs ls hP hS hL
  obtain ⟨hd, rfl⟩ := hd
  obtain ⟨hx, hb, hml, hr, hown, hts, hlk, hK, hCK, hi⟩ := C
  exact lv_lor hx hb hd (k g p l e s m args below meth c ⟨hx, hb, hml, hr, hown, hts, hlk, hK, hCK, hi⟩ H locs ls hP hS hL)
theorem rp_ldiv {M : cf_M} {pc pc' : Nat} {lv : List (Nat × Value)} {st : List Value} {h : cf_H} {P : Option Value → cf_H → Prop} {x y : Int64} (hd : cf_D M pc (.ldiv) 1 pc') (hne : ¬ y = 0) (k : RP M pc' lv (.long (x / y) :: st) h P) : RP M pc lv (.long y :: .long x :: st) h P := by
  intro g p l e s m args below meth c C H locs ls hP hS hL
  obtain ⟨hd, rfl⟩ := hd
  obtain ⟨hx, hb, hml, hr, hown, hts, hlk, hK, hCK, hi⟩ := C
  exact lv_ldiv hx hb hd hne (k g p l e s m args below meth c ⟨hx, hb, hml, hr, hown, hts, hlk, hK, hCK, hi⟩ H locs ls hP hS hL)
theorem rp_lrem {M : cf_M} {pc pc' : Nat} {lv : List (Nat × Value)} {st : List Value} {h : cf_H} {P : Option Value → cf_H → Prop} {x y : Int64} (hd : cf_D M pc (.lrem) 1 pc') (hne : ¬ y = 0) (k : RP M pc' lv (.long (x - x / y * y) :: st) h P) : RP M pc lv (.long y :: .long x :: st) h P := by
  intro g p l e s m args below meth c C H locs ls hP hS hL
  obtain ⟨hd, rfl⟩ := hd
  obtain ⟨hx, hb, hml, hr, hown, hts, hlk, hK, hCK, hi⟩ := C
  exact lv_lrem hx hb hd hne (k g p l e s m args below meth c ⟨hx, hb, hml, hr, hown, hts, hlk, hK, hCK, hi⟩ H locs ls hP hS hL)
theorem rp_lneg {M : cf_M} {pc pc' : Nat} {lv : List (Nat × Value)} {st : List Value} {h : cf_H} {P : Option Value → cf_H → Prop} {x : Int64} (hd : cf_D M pc (.lneg) 1 pc') (k : RP M pc' lv (.long (-x) :: st) h P) : RP M pc lv (.long x :: st) h P := by
  intro g p l e s m args below meth c C H locs ls hP hS hL
  obtain ⟨hd, rfl⟩ := hd
  obtain ⟨hx, hb, hml, hr, hown, hts, hlk, hK, hCK, hi⟩ := C
  exact lv_lneg hx hb hd (k g p l e s m args below meth c ⟨hx, hb, hml, hr, hown, hts, hlk, hK, hCK, hi⟩ H locs ls hP hS hL)
theorem rp_lshl {M : cf_M} {pc pc' : Nat} {lv : List (Nat × Value)} {st : List Value} {h : cf_H} {P : Option Value → cf_H → Prop} {x : Int64} {y : Int32} (hd : cf_D M pc (.lshl) 1 pc') (k : RP M pc' lv (.long (x <<< (y.toInt64 &&& 63)) :: st) h P) : RP M pc lv (.int y :: .long x :: st) h P := by
  intro g p l e s m args below meth c C H locs ls hP hS hL
  obtain ⟨hd, rfl⟩ := hd
  obtain ⟨hx, hb, hml, hr, hown, hts, hlk, hK, hCK, hi⟩ := C
  exact lv_lshl hx hb hd rfl (k g p l e s m args below meth c ⟨hx, hb, hml, hr, hown, hts, hlk, hK, hCK, hi⟩ H locs ls hP hS hL)
theorem rp_lcmp {M : cf_M} {pc pc' : Nat} {lv : List (Nat × Value)} {st : List Value} {h : cf_H} {P : Option Value → cf_H → Prop} {x y : Int64} (hd : cf_D M pc (.lcmp) 1 pc') (k : RP M pc' lv (.int (lg_cmp x y) :: st) h P) : RP M pc lv (.long y :: .long x :: st) h P := by
  intro g p l e s m args below meth c C H locs ls hP hS hL
  obtain ⟨hd, rfl⟩ := hd
  obtain ⟨hx, hb, hml, hr, hown, hts, hlk, hK, hCK, hi⟩ := C
  exact W.lcmp hx hb hd (k g p l e s m args below meth c ⟨hx, hb, hml, hr, hown, hts, hlk, hK, hCK, hi⟩ H locs ls hP hS hL)
theorem rp_i2l {M : cf_M} {pc pc' : Nat} {lv : List (Nat × Value)} {st : List Value} {h : cf_H} {P : Option Value → cf_H → Prop} {x : Int32} (hd : cf_D M pc (.i2l) 1 pc') (k : RP M pc' lv (.long x.toInt64 :: st) h P) : RP M pc lv (.int x :: st) h P := by
  intro g p l e s m args below meth c C H locs ls hP hS hL
  obtain ⟨hd, rfl⟩ := hd
  obtain ⟨hx, hb, hml, hr, hown, hts, hlk, hK, hCK, hi⟩ := C
  exact lv_i2l hx hb hd rfl (k g p l e s m args below meth c ⟨hx, hb, hml, hr, hown, hts, hlk, hK, hCK, hi⟩ H locs ls hP hS hL)
theorem rp_l2i {M : cf_M} {pc pc' : Nat} {lv : List (Nat × Value)} {st : List Value} {h : cf_H} {P : Option Value → cf_H → Prop} {x : Int64} (hd : cf_D M pc (.l2i) 1 pc') (k : RP M pc' lv (.int x.toInt32 :: st) h P) : RP M pc lv (.long x :: st) h P := by
  intro g p l e s m args below meth c C H locs ls hP hS hL
  obtain ⟨hd, rfl⟩ := hd
  obtain ⟨hx, hb, hml, hr, hown, hts, hlk, hK, hCK, hi⟩ := C
  exact lv_l2i hx hb hd rfl (k g p l e s m args below meth c ⟨hx, hb, hml, hr, hown, hts, hlk, hK, hCK, hi⟩ H locs ls hP hS hL)
theorem rp_i2b {M : cf_M} {pc pc' : Nat} {lv : List (Nat × Value)} {st : List Value} {h : cf_H} {P : Option Value → cf_H → Prop} {x : Int32} (hd : cf_D M pc (.i2b) 1 pc') (k : RP M pc' lv (.int x.toInt8.toInt32 :: st) h P) : RP M pc lv (.int x :: st) h P := by
  intro g p l e s m args below meth c C H locs ls hP hS hL
  obtain ⟨hd, rfl⟩ := hd
  obtain ⟨hx, hb, hml, hr, hown, hts, hlk, hK, hCK, hi⟩ := C
  exact lv_i2b hx hb hd rfl (k g p l e s m args below meth c ⟨hx, hb, hml, hr, hown, hts, hlk, hK, hCK, hi⟩ H locs ls hP hS hL)
theorem rp_i2c {M : cf_M} {pc pc' : Nat} {lv : List (Nat × Value)} {st : List Value} {h : cf_H} {P : Option Value → cf_H → Prop} {x : Int32} (hd : cf_D M pc (.i2c) 1 pc') (k : RP M pc' lv (.int (x.toUInt32 % 65536).toInt32 :: st) h P) : RP M pc lv (.int x :: st) h P := by
  intro g p l e s m args below meth c C H locs ls hP hS hL
  obtain ⟨hd, rfl⟩ := hd
  obtain ⟨hx, hb, hml, hr, hown, hts, hlk, hK, hCK, hi⟩ := C
  exact lv_i2c hx hb hd rfl (k g p l e s m args below meth c ⟨hx, hb, hml, hr, hown, hts, hlk, hK, hCK, hi⟩ H locs ls hP hS hL)
theorem rp_dup {M : cf_M} {pc pc' : Nat} {lv : List (Nat × Value)} {st : List Value} {h : cf_H} {P : Option Value → cf_H → Prop} {v : Value} (hd : cf_D M pc (.dup) 1 pc') (hv : v.category = 1) (k : RP M pc' lv (v :: v :: st) h P) : RP M pc lv (v :: st) h P := by
  intro g p l e s m args below meth c C H locs ls hP hS hL
  obtain ⟨hd, rfl⟩ := hd
  obtain ⟨hx, hb, hml, hr, hown, hts, hlk, hK, hCK, hi⟩ := C
  exact lv_dup hx hb hd (by rw [cf_tr_cat]; exact hv) (k g p l e s m args below meth c ⟨hx, hb, hml, hr, hown, hts, hlk, hK, hCK, hi⟩ H locs ls hP hS hL)
theorem rp_pop {M : cf_M} {pc pc' : Nat} {lv : List (Nat × Value)} {st : List Value} {h : cf_H} {P : Option Value → cf_H → Prop} {v : Value} (hd : cf_D M pc (.pop) 1 pc') (hv : v.category = 1) (k : RP M pc' lv (st) h P) : RP M pc lv (v :: st) h P := by
  intro g p l e s m args below meth c C H locs ls hP hS hL
  obtain ⟨hd, rfl⟩ := hd
  obtain ⟨hx, hb, hml, hr, hown, hts, hlk, hK, hCK, hi⟩ := C
  exact lv_pop hx hb hd (by rw [cf_tr_cat]; exact hv) (k g p l e s m args below meth c ⟨hx, hb, hml, hr, hown, hts, hlk, hK, hCK, hi⟩ H locs ls hP hS hL)
theorem rp_iconst {M : cf_M} {pc pc' : Nat} {lv : List (Nat × Value)} {st : List Value} {h : cf_H} {P : Option Value → cf_H → Prop} {n : Int} {v : Int32} (hd : cf_D M pc (.iconst n) 1 pc') (hv : Int32.ofInt n = v) (k : RP M pc' lv (.int v :: st) h P) : RP M pc lv (st) h P := by
  intro g p l e s m args below meth c C H locs ls hP hS hL
  obtain ⟨hd, rfl⟩ := hd
  obtain ⟨hx, hb, hml, hr, hown, hts, hlk, hK, hCK, hi⟩ := C
  exact lv_iconst hx hb hd hv (k g p l e s m args below meth c ⟨hx, hb, hml, hr, hown, hts, hlk, hK, hCK, hi⟩ H locs ls hP hS hL)
theorem rp_bipush {M : cf_M} {pc pc' : Nat} {lv : List (Nat × Value)} {st : List Value} {h : cf_H} {P : Option Value → cf_H → Prop} {n : Int} {v : Int32} (hd : cf_D M pc (.bipush n) 2 pc') (hv : (Int8.ofInt n).toInt32 = v) (k : RP M pc' lv (.int v :: st) h P) : RP M pc lv (st) h P := by
  intro g p l e s m args below meth c C H locs ls hP hS hL
  obtain ⟨hd, rfl⟩ := hd
  obtain ⟨hx, hb, hml, hr, hown, hts, hlk, hK, hCK, hi⟩ := C
  exact lv_bipush hx hb hd hv (k g p l e s m args below meth c ⟨hx, hb, hml, hr, hown, hts, hlk, hK, hCK, hi⟩ H locs ls hP hS hL)
theorem rp_sipush {M : cf_M} {pc pc' : Nat} {lv : List (Nat × Value)} {st : List Value} {h : cf_H} {P : Option Value → cf_H → Prop} {n : Int} {v : Int32} (hd : cf_D M pc (.sipush n) 3 pc') (hv : (Int16.ofInt n).toInt32 = v) (k : RP M pc' lv (.int v :: st) h P) : RP M pc lv (st) h P := by
  intro g p l e s m args below meth c C H locs ls hP hS hL
  obtain ⟨hd, rfl⟩ := hd
  obtain ⟨hx, hb, hml, hr, hown, hts, hlk, hK, hCK, hi⟩ := C
  exact lv_sipush hx hb hd hv (k g p l e s m args below meth c ⟨hx, hb, hml, hr, hown, hts, hlk, hK, hCK, hi⟩ H locs ls hP hS hL)
theorem rp_lconst {M : cf_M} {pc pc' : Nat} {lv : List (Nat × Value)} {st : List Value} {h : cf_H} {P : Option Value → cf_H → Prop} {n : Fin 2} {v : Int64} (hd : cf_D M pc (.lconst n) 1 pc') (hv : Int64.ofNat (n : Nat) = v) (k : RP M pc' lv (.long v :: st) h P) : RP M pc lv (st) h P := by
  intro g p l e s m args below meth c C H locs ls hP hS hL
  obtain ⟨hd, rfl⟩ := hd
  obtain ⟨hx, hb, hml, hr, hown, hts, hlk, hK, hCK, hi⟩ := C
  exact lv_lconst hx hb hd hv (k g p l e s m args below meth c ⟨hx, hb, hml, hr, hown, hts, hlk, hK, hCK, hi⟩ H locs ls hP hS hL)
theorem rp_ldc {M : cf_M} {pc pc' : Nat} {lv : List (Nat × Value)} {st : List Value} {h : cf_H} {P : Option Value → cf_H → Prop} {idx : Nat} {v : Int32} (hd : cf_D M pc (.ldc idx) 2 pc') (hw : Cond.constant (cf_own M) idx v ∈ cf_T) (k : RP M pc' lv (.int v :: st) h P) : RP M pc lv (st) h P := by
  intro g p l e s m args below meth c C H locs ls hP hS hL
  obtain ⟨hd, rfl⟩ := hd
  obtain ⟨hx, hb, hml, hr, hown, hts, hlk, hK, hCK, hi⟩ := C
  exact lv_ldc hx hb hown (hts _ hw) hd (k g p l e s m args below meth c ⟨hx, hb, hml, hr, hown, hts, hlk, hK, hCK, hi⟩ H locs ls hP hS hL)
theorem rp_ldc2 {M : cf_M} {pc pc' : Nat} {lv : List (Nat × Value)} {st : List Value} {h : cf_H} {P : Option Value → cf_H → Prop} {idx : Nat} {v : Int64} (hd : cf_D M pc (.ldc2_w idx) 3 pc') (hw : Cond.constantLong (cf_own M) idx v ∈ cf_T) (k : RP M pc' lv (.long v :: st) h P) : RP M pc lv (st) h P := by
  intro g p l e s m args below meth c C H locs ls hP hS hL
  obtain ⟨hd, rfl⟩ := hd
  obtain ⟨hx, hb, hml, hr, hown, hts, hlk, hK, hCK, hi⟩ := C
  exact lv_ldc2 hx hb hown (hts _ hw) hd (k g p l e s m args below meth c ⟨hx, hb, hml, hr, hown, hts, hlk, hK, hCK, hi⟩ H locs ls hP hS hL)
theorem rp_iload {M : cf_M} {pc pc' : Nat} {lv : List (Nat × Value)} {st : List Value} {h : cf_H} {P : Option Value → cf_H → Prop} {i : Nat} {x : Int32} (hd : cf_D M pc (.iload i) 2 pc') (hl : cf_lk lv i = some (.int x)) (k : RP M pc' lv (.int x :: st) h P) : RP M pc lv (st) h P := by
  intro g p l e s m args below meth c C H locs ls hP hS hL
  obtain ⟨hd, rfl⟩ := hd
  obtain ⟨hx, hb, hml, hr, hown, hts, hlk, hK, hCK, hi⟩ := C
  exact lv_iload hx hb hd (hL.at hl (by intro e; cases e)) (k g p l e s m args below meth c ⟨hx, hb, hml, hr, hown, hts, hlk, hK, hCK, hi⟩ H locs ls hP hS hL)
theorem rp_iload_n {M : cf_M} {pc pc' : Nat} {lv : List (Nat × Value)} {st : List Value} {h : cf_H} {P : Option Value → cf_H → Prop} {j : Fin 4} {i : Nat} {x : Int32} (hd : cf_D M pc (.iload_n j) 1 pc') (hj : (j : Nat) = i) (hl : cf_lk lv i = some (.int x)) (k : RP M pc' lv (.int x :: st) h P) : RP M pc lv (st) h P := by
  intro g p l e s m args below meth c C H locs ls hP hS hL
  obtain ⟨hd, rfl⟩ := hd
  obtain ⟨hx, hb, hml, hr, hown, hts, hlk, hK, hCK, hi⟩ := C
  exact lv_iload_n hx hb hd hj (hL.at hl (by intro e; cases e)) (k g p l e s m args below meth c ⟨hx, hb, hml, hr, hown, hts, hlk, hK, hCK, hi⟩ H locs ls hP hS hL)
theorem rp_lload {M : cf_M} {pc pc' : Nat} {lv : List (Nat × Value)} {st : List Value} {h : cf_H} {P : Option Value → cf_H → Prop} {i : Nat} {x : Int64} (hd : cf_D M pc (.lload i) 2 pc') (hl : cf_lk lv i = some (.long x)) (k : RP M pc' lv (.long x :: st) h P) : RP M pc lv (st) h P := by
  intro g p l e s m args below meth c C H locs ls hP hS hL
  obtain ⟨hd, rfl⟩ := hd
  obtain ⟨hx, hb, hml, hr, hown, hts, hlk, hK, hCK, hi⟩ := C
  exact lv_lload hx hb hd (hL.at hl (by intro e; cases e)) (k g p l e s m args below meth c ⟨hx, hb, hml, hr, hown, hts, hlk, hK, hCK, hi⟩ H locs ls hP hS hL)
theorem rp_lload_n {M : cf_M} {pc pc' : Nat} {lv : List (Nat × Value)} {st : List Value} {h : cf_H} {P : Option Value → cf_H → Prop} {j : Fin 4} {i : Nat} {x : Int64} (hd : cf_D M pc (.lload_n j) 1 pc') (hj : (j : Nat) = i) (hl : cf_lk lv i = some (.long x)) (k : RP M pc' lv (.long x :: st) h P) : RP M pc lv (st) h P := by
  intro g p l e s m args below meth c C H locs ls hP hS hL
  obtain ⟨hd, rfl⟩ := hd
  obtain ⟨hx, hb, hml, hr, hown, hts, hlk, hK, hCK, hi⟩ := C
  exact lv_lload_n hx hb hd hj (hL.at hl (by intro e; cases e)) (k g p l e s m args below meth c ⟨hx, hb, hml, hr, hown, hts, hlk, hK, hCK, hi⟩ H locs ls hP hS hL)
theorem rp_aload {M : cf_M} {pc pc' : Nat} {lv : List (Nat × Value)} {st : List Value} {h : cf_H} {P : Option Value → cf_H → Prop} {i : Nat} {x : Nat} (hd : cf_D M pc (.aload i) 2 pc') (hl : cf_lk lv i = some (.ref x)) (k : RP M pc' lv (.ref x :: st) h P) : RP M pc lv (st) h P := by
  intro g p l e s m args below meth c C H locs ls hP hS hL
  obtain ⟨hd, rfl⟩ := hd
  obtain ⟨hx, hb, hml, hr, hown, hts, hlk, hK, hCK, hi⟩ := C
  exact lv_aload hx hb hd (hL.at hl (by intro e; cases e)) (k g p l e s m args below meth c ⟨hx, hb, hml, hr, hown, hts, hlk, hK, hCK, hi⟩ H locs ls hP hS hL)
theorem rp_aload_n {M : cf_M} {pc pc' : Nat} {lv : List (Nat × Value)} {st : List Value} {h : cf_H} {P : Option Value → cf_H → Prop} {j : Fin 4} {i : Nat} {x : Nat} (hd : cf_D M pc (.aload_n j) 1 pc') (hj : (j : Nat) = i) (hl : cf_lk lv i = some (.ref x)) (k : RP M pc' lv (.ref x :: st) h P) : RP M pc lv (st) h P := by
  intro g p l e s m args below meth c C H locs ls hP hS hL
  obtain ⟨hd, rfl⟩ := hd
  obtain ⟨hx, hb, hml, hr, hown, hts, hlk, hK, hCK, hi⟩ := C
  exact lv_aload_n hx hb hd hj (hL.at hl (by intro e; cases e)) (k g p l e s m args below meth c ⟨hx, hb, hml, hr, hown, hts, hlk, hK, hCK, hi⟩ H locs ls hP hS hL)
theorem rp_istore {M : cf_M} {pc pc' : Nat} {lv : List (Nat × Value)} {st : List Value} {h : cf_H} {P : Option Value → cf_H → Prop} {i : Nat} {x : Int32} (hd : cf_D M pc (.istore i) 2 pc') (hn : cf_nl lv i = true) (hm : i < cf_mL M) (k : RP M pc' ((i, .int x) :: lv) st h P) : RP M pc lv (.int x :: st) h P := by
  intro g p l e s m args below meth c C H locs ls hP hS hL
  obtain ⟨hd, rfl⟩ := hd
  obtain ⟨hx, hb, hml, hr, hown, hts, hlk, hK, hCK, hi⟩ := C
  obtain ⟨l0, h1, h2⟩ := hL
  exact lv_istore hx hb hd h1 hm rfl (fun ls' h' => k g p l e s m args below meth c ⟨hx, hb, hml, hr, hown, hts, hlk, hK, hCK, hi⟩ H locs _ hP hS (cf_L.st1 (v := .int x) hn h2 h'))
theorem rp_istore_n {M : cf_M} {pc pc' : Nat} {lv : List (Nat × Value)} {st : List Value} {h : cf_H} {P : Option Value → cf_H → Prop} {j : Fin 4} {i : Nat} {x : Int32} (hd : cf_D M pc (.istore_n j) 1 pc') (hj : (j : Nat) = i) (hn : cf_nl lv i = true) (hm : i < cf_mL M) (k : RP M pc' ((i, .int x) :: lv) st h P) : RP M pc lv (.int x :: st) h P := by
  intro g p l e s m args below meth c C H locs ls hP hS hL
  obtain ⟨hd, rfl⟩ := hd
  obtain ⟨hx, hb, hml, hr, hown, hts, hlk, hK, hCK, hi⟩ := C
  obtain ⟨l0, h1, h2⟩ := hL
  exact lv_istore_n hx hb hd hj h1 hm rfl (fun ls' h' => k g p l e s m args below meth c ⟨hx, hb, hml, hr, hown, hts, hlk, hK, hCK, hi⟩ H locs _ hP hS (cf_L.st1 (v := .int x) hn h2 h'))
theorem rp_lstore {M : cf_M} {pc pc' : Nat} {lv : List (Nat × Value)} {st : List Value} {h : cf_H} {P : Option Value → cf_H → Prop} {i : Nat} {x : Int64} (hd : cf_D M pc (.lstore i) 2 pc') (hn : cf_nl lv i = true) (hm : i + 1 < cf_mL M) (k : RP M pc' ((i, .long x) :: (i + 1, .null) :: lv) st h P) : RP M pc lv (.long x :: st) h P := by
  intro g p l e s m args below meth c C H locs ls hP hS hL
  obtain ⟨hd, rfl⟩ := hd
  obtain ⟨hx, hb, hml, hr, hown, hts, hlk, hK, hCK, hi⟩ := C
  obtain ⟨l0, h1, h2⟩ := hL
  exact lv_lstore hx hb hd h1 hm rfl (fun ls' h' => k g p l e s m args below meth c ⟨hx, hb, hml, hr, hown, hts, hlk, hK, hCK, hi⟩ H locs _ hP hS (cf_L.st2 (v := .long x) hn h2 h'))
theorem rp_lstore_n {M : cf_M} {pc pc' : Nat} {lv : List (Nat × Value)} {st : List Value} {h : cf_H} {P : Option Value → cf_H → Prop} {j : Fin 4} {i : Nat} {x : Int64} (hd : cf_D M pc (.lstore_n j) 1 pc') (hj : (j : Nat) = i) (hn : cf_nl lv i = true) (hm : i + 1 < cf_mL M) (k : RP M pc' ((i, .long x) :: (i + 1, .null) :: lv) st h P) : RP M pc lv (.long x :: st) h P := by
  intro g p l e s m args below meth c C H locs ls hP hS hL
  obtain ⟨hd, rfl⟩ := hd
  obtain ⟨hx, hb, hml, hr, hown, hts, hlk, hK, hCK, hi⟩ := C
  obtain ⟨l0, h1, h2⟩ := hL
  exact lv_lstore_n hx hb hd hj h1 hm rfl (fun ls' h' => k g p l e s m args below meth c ⟨hx, hb, hml, hr, hown, hts, hlk, hK, hCK, hi⟩ H locs _ hP hS (cf_L.st2 (v := .long x) hn h2 h'))
theorem rp_astore {M : cf_M} {pc pc' : Nat} {lv : List (Nat × Value)} {st : List Value} {h : cf_H} {P : Option Value → cf_H → Prop} {i : Nat} {x : Nat} (hd : cf_D M pc (.astore i) 2 pc') (hn : cf_nl lv i = true) (hm : i < cf_mL M) (k : RP M pc' ((i, .ref x) :: lv) st h P) : RP M pc lv (.ref x :: st) h P := by
  intro g p l e s m args below meth c C H locs ls hP hS hL
  obtain ⟨hd, rfl⟩ := hd
  obtain ⟨hx, hb, hml, hr, hown, hts, hlk, hK, hCK, hi⟩ := C
  obtain ⟨l0, h1, h2⟩ := hL
  exact lv_astore hx hb hd h1 hm rfl (fun ls' h' => k g p l e s m args below meth c ⟨hx, hb, hml, hr, hown, hts, hlk, hK, hCK, hi⟩ H locs _ hP hS (cf_L.st1 (v := .ref x) hn h2 h'))
theorem rp_astore_n {M : cf_M} {pc pc' : Nat} {lv : List (Nat × Value)} {st : List Value} {h : cf_H} {P : Option Value → cf_H → Prop} {j : Fin 4} {i : Nat} {x : Nat} (hd : cf_D M pc (.astore_n j) 1 pc') (hj : (j : Nat) = i) (hn : cf_nl lv i = true) (hm : i < cf_mL M) (k : RP M pc' ((i, .ref x) :: lv) st h P) : RP M pc lv (.ref x :: st) h P := by
  intro g p l e s m args below meth c C H locs ls hP hS hL
  obtain ⟨hd, rfl⟩ := hd
  obtain ⟨hx, hb, hml, hr, hown, hts, hlk, hK, hCK, hi⟩ := C
  obtain ⟨l0, h1, h2⟩ := hL
  exact lv_astore_n hx hb hd hj h1 hm rfl (fun ls' h' => k g p l e s m args below meth c ⟨hx, hb, hml, hr, hown, hts, hlk, hK, hCK, hi⟩ H locs _ hP hS (cf_L.st1 (v := .ref x) hn h2 h'))
theorem rp_iinc {M : cf_M} {pc pc' : Nat} {lv : List (Nat × Value)} {st : List Value} {h : cf_H} {P : Option Value → cf_H → Prop} {i : Nat} {n : Int} {x : Int32} (hd : cf_D M pc (.iinc i n) 3 pc') (hl : cf_lk lv i = some (.int x)) {y : Int32} (hy : Int32.ofInt n = y) (hn : cf_nl lv i = true) (hm : i < cf_mL M) (k : RP M pc' ((i, .int (x + y)) :: lv) st h P) : RP M pc lv st h P := by
  intro g p l e s m args below meth c C H locs ls hP hS hL
  obtain ⟨hd, rfl⟩ := hd
  obtain ⟨hx, hb, hml, hr, hown, hts, hlk, hK, hCK, hi⟩ := C
  obtain ⟨l0, h1, h2⟩ := hL
  obtain ⟨k0, hk0⟩ := List.getElem?_of_mem (h2 i _ hl (by intro e; cases e))
  subst hy
  exact lv_iinc hx hb hd h1 hk0 rfl hm rfl (fun ls' h' => k g p l e s m args below meth c ⟨hx, hb, hml, hr, hown, hts, hlk, hK, hCK, hi⟩ H locs _ hP hS (cf_L.st1 (v := .int (x + Int32.ofInt n)) hn h2 h'))
theorem rp_if_eq {M : cf_M} {pc pc' tgt : Nat} {lv : List (Nat × Value)} {st : List Value} {h : cf_H} {P : Option Value → cf_H → Prop} {off : Int} {x : Int32} (hd : cf_D M pc (.ifCond .eq off) 3 pc') (ht : (pc : Int) + off = (tgt : Int)) (kt : x = 0 → RP M tgt lv st h P) (kf : ¬ x = 0 → RP M pc' lv st h P) : RP M pc lv (.int x :: st) h P := by
  intro g p l e s m args below meth c C H locs ls hP hS hL
  obtain ⟨hd, rfl⟩ := hd
  obtain ⟨hx, hb, hml, hr, hown, hts, hlk, hK, hCK, hi⟩ := C
  exact lv_if_eq hx hb hd ht (fun q => kt q g p l e s m args below meth c ⟨hx, hb, hml, hr, hown, hts, hlk, hK, hCK, hi⟩ H locs ls hP hS hL) (fun q => kf q g p l e s m args below meth c ⟨hx, hb, hml, hr, hown, hts, hlk, hK, hCK, hi⟩ H locs ls hP hS hL)
theorem rp_if_ne {M : cf_M} {pc pc' tgt : Nat} {lv : List (Nat × Value)} {st : List Value} {h : cf_H} {P : Option Value → cf_H → Prop} {off : Int} {x : Int32} (hd : cf_D M pc (.ifCond .ne off) 3 pc') (ht : (pc : Int) + off = (tgt : Int)) (kt : ¬ x = 0 → RP M tgt lv st h P) (kf : x = 0 → RP M pc' lv st h P) : RP M pc lv (.int x :: st) h P := by
  intro g p l e s m args below meth c C H locs ls hP hS hL
  obtain ⟨hd, rfl⟩ := hd
  obtain ⟨hx, hb, hml, hr, hown, hts, hlk, hK, hCK, hi⟩ := C
  exact lv_if_ne hx hb hd ht (fun q => kt q g p l e s m args below meth c ⟨hx, hb, hml, hr, hown, hts, hlk, hK, hCK, hi⟩ H locs ls hP hS hL) (fun q => kf q g p l e s m args below meth c ⟨hx, hb, hml, hr, hown, hts, hlk, hK, hCK, hi⟩ H locs ls hP hS hL)
theorem rp_if_lt {M : cf_M} {pc pc' tgt : Nat} {lv : List (Nat × Value)} {st : List Value} {h : cf_H} {P : Option Value → cf_H → Prop} {off : Int} {x : Int32} (hd : cf_D M pc (.ifCond .lt off) 3 pc') (ht : (pc : Int) + off = (tgt : Int)) (kt : x < 0 → RP M tgt lv st h P) (kf : ¬ x < 0 → RP M pc' lv st h P) : RP M pc lv (.int x :: st) h P := by
  intro g p l e s m args below meth c C H locs ls hP hS hL
  obtain ⟨hd, rfl⟩ := hd
  obtain ⟨hx, hb, hml, hr, hown, hts, hlk, hK, hCK, hi⟩ := C
  exact lv_if_lt hx hb hd ht (fun q => kt q g p l e s m args below meth c ⟨hx, hb, hml, hr, hown, hts, hlk, hK, hCK, hi⟩ H locs ls hP hS hL) (fun q => kf q g p l e s m args below meth c ⟨hx, hb, hml, hr, hown, hts, hlk, hK, hCK, hi⟩ H locs ls hP hS hL)
theorem rp_if_ge {M : cf_M} {pc pc' tgt : Nat} {lv : List (Nat × Value)} {st : List Value} {h : cf_H} {P : Option Value → cf_H → Prop} {off : Int} {x : Int32} (hd : cf_D M pc (.ifCond .ge off) 3 pc') (ht : (pc : Int) + off = (tgt : Int)) (kt : 0 ≤ x → RP M tgt lv st h P) (kf : ¬ 0 ≤ x → RP M pc' lv st h P) : RP M pc lv (.int x :: st) h P := by
  intro g p l e s m args below meth c C H locs ls hP hS hL
  obtain ⟨hd, rfl⟩ := hd
  obtain ⟨hx, hb, hml, hr, hown, hts, hlk, hK, hCK, hi⟩ := C
  exact lv_if_ge hx hb hd ht (fun q => kt q g p l e s m args below meth c ⟨hx, hb, hml, hr, hown, hts, hlk, hK, hCK, hi⟩ H locs ls hP hS hL) (fun q => kf q g p l e s m args below meth c ⟨hx, hb, hml, hr, hown, hts, hlk, hK, hCK, hi⟩ H locs ls hP hS hL)
theorem rp_if_gt {M : cf_M} {pc pc' tgt : Nat} {lv : List (Nat × Value)} {st : List Value} {h : cf_H} {P : Option Value → cf_H → Prop} {off : Int} {x : Int32} (hd : cf_D M pc (.ifCond .gt off) 3 pc') (ht : (pc : Int) + off = (tgt : Int)) (kt : 0 < x → RP M tgt lv st h P) (kf : ¬ 0 < x → RP M pc' lv st h P) : RP M pc lv (.int x :: st) h P := by
  intro g p l e s m args below meth c C H locs ls hP hS hL
  obtain ⟨hd, rfl⟩ := hd
  obtain ⟨hx, hb, hml, hr, hown, hts, hlk, hK, hCK, hi⟩ := C
  exact lv_if_gt hx hb hd ht (fun q => kt q g p l e s m args below meth c ⟨hx, hb, hml, hr, hown, hts, hlk, hK, hCK, hi⟩ H locs ls hP hS hL) (fun q => kf q g p l e s m args below meth c ⟨hx, hb, hml, hr, hown, hts, hlk, hK, hCK, hi⟩ H locs ls hP hS hL)
theorem rp_if_le {M : cf_M} {pc pc' tgt : Nat} {lv : List (Nat × Value)} {st : List Value} {h : cf_H} {P : Option Value → cf_H → Prop} {off : Int} {x : Int32} (hd : cf_D M pc (.ifCond .le off) 3 pc') (ht : (pc : Int) + off = (tgt : Int)) (kt : x ≤ 0 → RP M tgt lv st h P) (kf : ¬ x ≤ 0 → RP M pc' lv st h P) : RP M pc lv (.int x :: st) h P := by
  intro g p l e s m args below meth c C H locs ls hP hS hL
  obtain ⟨hd, rfl⟩ := hd
  obtain ⟨hx, hb, hml, hr, hown, hts, hlk, hK, hCK, hi⟩ := C
  exact lv_if_le hx hb hd ht (fun q => kt q g p l e s m args below meth c ⟨hx, hb, hml, hr, hown, hts, hlk, hK, hCK, hi⟩ H locs ls hP hS hL) (fun q => kf q g p l e s m args below meth c ⟨hx, hb, hml, hr, hown, hts, hlk, hK, hCK, hi⟩ H locs ls hP hS hL)
theorem rp_icmp_eq {M : cf_M} {pc pc' tgt : Nat} {lv : List (Nat × Value)} {st : List Value} {h : cf_H} {P : Option Value → cf_H → Prop} {off : Int} {x y : Int32} (hd : cf_D M pc (.if_icmp .eq off) 3 pc') (ht : (pc : Int) + off = (tgt : Int)) (kt : x = y → RP M tgt lv st h P) (kf : ¬ x = y → RP M pc' lv st h P) : RP M pc lv (.int y :: .int x :: st) h P := by
  intro g p l e s m args below meth c C H locs ls hP hS hL
  obtain ⟨hd, rfl⟩ := hd
  obtain ⟨hx, hb, hml, hr, hown, hts, hlk, hK, hCK, hi⟩ := C
  exact lv_icmp_eq hx hb hd ht (fun q => kt q g p l e s m args below meth c ⟨hx, hb, hml, hr, hown, hts, hlk, hK, hCK, hi⟩ H locs ls hP hS hL) (fun q => kf q g p l e s m args below meth c ⟨hx, hb, hml, hr, hown, hts, hlk, hK, hCK, hi⟩ H locs ls hP hS hL)
theorem rp_icmp_ne {M : cf_M} {pc pc' tgt : Nat} {lv : List (Nat × Value)} {st : List Value} {h : cf_H} {P : Option Value → cf_H → Prop} {off : Int} {x y : Int32} (hd : cf_D M pc (.if_icmp .ne off) 3 pc') (ht : (pc : Int) + off = (tgt : Int)) (kt : ¬ x = y → RP M tgt lv st h P) (kf : x = y → RP M pc' lv st h P) : RP M pc lv (.int y :: .int x :: st) h P := by
  intro g p l e s m args below meth c C H locs ls hP hS hL
  obtain ⟨hd, rfl⟩ := hd
  obtain ⟨hx, hb, hml, hr, hown, hts, hlk, hK, hCK, hi⟩ := C
  exact lv_icmp_ne hx hb hd ht (fun q => kt q g p l e s m args below meth c ⟨hx, hb, hml, hr, hown, hts, hlk, hK, hCK, hi⟩ H locs ls hP hS hL) (fun q => kf q g p l e s m args below meth c ⟨hx, hb, hml, hr, hown, hts, hlk, hK, hCK, hi⟩ H locs ls hP hS hL)
theorem rp_icmp_lt {M : cf_M} {pc pc' tgt : Nat} {lv : List (Nat × Value)} {st : List Value} {h : cf_H} {P : Option Value → cf_H → Prop} {off : Int} {x y : Int32} (hd : cf_D M pc (.if_icmp .lt off) 3 pc') (ht : (pc : Int) + off = (tgt : Int)) (kt : x < y → RP M tgt lv st h P) (kf : ¬ x < y → RP M pc' lv st h P) : RP M pc lv (.int y :: .int x :: st) h P := by
  intro g p l e s m args below meth c C H locs ls hP hS hL
  obtain ⟨hd, rfl⟩ := hd
  obtain ⟨hx, hb, hml, hr, hown, hts, hlk, hK, hCK, hi⟩ := C
  exact lv_icmp_lt hx hb hd ht (fun q => kt q g p l e s m args below meth c ⟨hx, hb, hml, hr, hown, hts, hlk, hK, hCK, hi⟩ H locs ls hP hS hL) (fun q => kf q g p l e s m args below meth c ⟨hx, hb, hml, hr, hown, hts, hlk, hK, hCK, hi⟩ H locs ls hP hS hL)
theorem rp_icmp_ge {M : cf_M} {pc pc' tgt : Nat} {lv : List (Nat × Value)} {st : List Value} {h : cf_H} {P : Option Value → cf_H → Prop} {off : Int} {x y : Int32} (hd : cf_D M pc (.if_icmp .ge off) 3 pc') (ht : (pc : Int) + off = (tgt : Int)) (kt : y ≤ x → RP M tgt lv st h P) (kf : ¬ y ≤ x → RP M pc' lv st h P) : RP M pc lv (.int y :: .int x :: st) h P := by
  intro g p l e s m args below meth c C H locs ls hP hS hL
  obtain ⟨hd, rfl⟩ := hd
  obtain ⟨hx, hb, hml, hr, hown, hts, hlk, hK, hCK, hi⟩ := C
  exact lv_icmp_ge hx hb hd ht (fun q => kt q g p l e s m args below meth c ⟨hx, hb, hml, hr, hown, hts, hlk, hK, hCK, hi⟩ H locs ls hP hS hL) (fun q => kf q g p l e s m args below meth c ⟨hx, hb, hml, hr, hown, hts, hlk, hK, hCK, hi⟩ H locs ls hP hS hL)
theorem rp_icmp_gt {M : cf_M} {pc pc' tgt : Nat} {lv : List (Nat × Value)} {st : List Value} {h : cf_H} {P : Option Value → cf_H → Prop} {off : Int} {x y : Int32} (hd : cf_D M pc (.if_icmp .gt off) 3 pc') (ht : (pc : Int) + off = (tgt : Int)) (kt : y < x → RP M tgt lv st h P) (kf : ¬ y < x → RP M pc' lv st h P) : RP M pc lv (.int y :: .int x :: st) h P := by
  intro g p l e s m args below meth c C H locs ls hP hS hL
  obtain ⟨hd, rfl⟩ := hd
  obtain ⟨hx, hb, hml, hr, hown, hts, hlk, hK, hCK, hi⟩ := C
  exact lv_icmp_gt hx hb hd ht (fun q => kt q g p l e s m args below meth c ⟨hx, hb, hml, hr, hown, hts, hlk, hK, hCK, hi⟩ H locs ls hP hS hL) (fun q => kf q g p l e s m args below meth c ⟨hx, hb, hml, hr, hown, hts, hlk, hK, hCK, hi⟩ H locs ls hP hS hL)
theorem rp_icmp_le {M : cf_M} {pc pc' tgt : Nat} {lv : List (Nat × Value)} {st : List Value} {h : cf_H} {P : Option Value → cf_H → Prop} {off : Int} {x y : Int32} (hd : cf_D M pc (.if_icmp .le off) 3 pc') (ht : (pc : Int) + off = (tgt : Int)) (kt : x ≤ y → RP M tgt lv st h P) (kf : ¬ x ≤ y → RP M pc' lv st h P) : RP M pc lv (.int y :: .int x :: st) h P := by
  intro g p l e s m args below meth c C H locs ls hP hS hL
  obtain ⟨hd, rfl⟩ := hd
  obtain ⟨hx, hb, hml, hr, hown, hts, hlk, hK, hCK, hi⟩ := C
  exact lv_icmp_le hx hb hd ht (fun q => kt q g p l e s m args below meth c ⟨hx, hb, hml, hr, hown, hts, hlk, hK, hCK, hi⟩ H locs ls hP hS hL) (fun q => kf q g p l e s m args below meth c ⟨hx, hb, hml, hr, hown, hts, hlk, hK, hCK, hi⟩ H locs ls hP hS hL)
theorem rp_goto {M : cf_M} {pc pc' tgt : Nat} {lv : List (Nat × Value)} {st : List Value} {h : cf_H} {P : Option Value → cf_H → Prop} {off : Int} (hd : cf_D M pc (.goto off) 3 pc') (ht : (pc : Int) + off = (tgt : Int)) (k : RP M tgt lv st h P) : RP M pc lv st h P := by
  intro g p l e s m args below meth c C H locs ls hP hS hL
  obtain ⟨hd, rfl⟩ := hd
  obtain ⟨hx, hb, hml, hr, hown, hts, hlk, hK, hCK, hi⟩ := C
  exact lv_goto hx hb hd ht (k g p l e s m args below meth c ⟨hx, hb, hml, hr, hown, hts, hlk, hK, hCK, hi⟩ H locs ls hP hS hL)
theorem rp_ireturn {M : cf_M} {pc pc' : Nat} {lv : List (Nat × Value)} {h : cf_H} {P : Option Value → cf_H → Prop} {ty : FieldType} {x : Int32} (hd : cf_D M pc .ireturn 1 pc') (ht : cf_ret M = some ty) (hn : narrow ty (.int x) = .int x) (k : P (some (.int x)) h) : RP M pc lv [.int x] h P := by
  intro g p l e s m args below meth c C H locs ls hP hS hL
  obtain ⟨hd, rfl⟩ := hd
  obtain ⟨hx, hb, hml, hr, hown, hts, hlk, hK, hCK, hi⟩ := C
  exact W.zret hx hb (hr.trans ht) hn (fun t ht _ => ⟨⟨some (.int x), h, rfl, k, by rw [ht]; exact hP⟩, hS.F ht⟩) hS.2.2 hd hlk
theorem rp_lreturn {M : cf_M} {pc pc' : Nat} {lv : List (Nat × Value)} {h : cf_H} {P : Option Value → cf_H → Prop} {x : Int64} (hd : cf_D M pc .lreturn 1 pc') (ht : cf_ret M = some .long) (k : P (some (.long x)) h) : RP M pc lv [.long x] h P := by
  intro g p l e s m args below meth c C H locs ls hP hS hL
  obtain ⟨hd, rfl⟩ := hd
  obtain ⟨hx, hb, hml, hr, hown, hts, hlk, hK, hCK, hi⟩ := C
  exact W.lret hx hb (hr.trans ht) (fun t ht _ => ⟨⟨some (.long x), h, rfl, k, by rw [ht]; exact hP⟩, hS.F ht⟩) hS.2.2 hd hlk
theorem rp_return {M : cf_M} {pc pc' : Nat} {lv : List (Nat × Value)} {h : cf_H} {P : Option Value → cf_H → Prop} (hd : cf_D M pc .return_ 1 pc') (ht : cf_ret M = none) (k : P none h) : RP M pc lv [] h P := by
  intro g p l e s m args below meth c C H locs ls hP hS hL
  obtain ⟨hd, rfl⟩ := hd
  obtain ⟨hx, hb, hml, hr, hown, hts, hlk, hK, hCK, hi⟩ := C
  exact W.vret hx hb (hr.trans ht) (fun t ht _ => ⟨⟨none, h, rfl, k, by rw [ht]; exact hP⟩, hS.F ht⟩) hS.2.2 hd hlk
/-! fields -/
def cf_F (own : String) (idx ci k kind : Nat) (ty : FieldType) (fin : Bool) : Prop := ∃ (C : String) (T : u_T) (N : Nat) (tys : Nat → FieldType), cf_cl[ci]? = some (C, T, N) ∧ (∀ w ∈ u_ws C T N, w ∈ cf_T) ∧ (∀ j, j < N → parseFieldDescriptor (T j).2.2.1 = some (tys j)) ∧ (∀ a, a < N → ∀ b, b < N → a ≠ b → (T a).2.1 ≠ (T b).2.1) ∧ k < N ∧ cf_N ci = N ∧ cf_kd ci k = kind ∧ tys k = ty ∧ (T k).2.2.2 = fin ∧ (T k).1 = C ∧ (Cond.fieldLink own idx C (T k).2.1 (T k).2.2.1 ∈ cf_T ∨ ∃ host, Cond.fieldLinkNest own idx C (T k).2.1 (T k).2.2.1 host ∈ cf_T)
theorem cf_getW {M : cf_M} {pc idx ci k kind o : Nat} {ty : FieldType} {fin : Bool} {h : cf_H} {g : cf_G} {p : Program} {l : Launch} {e : Env} {R : Room} {s : State} {m : MethodId} {args : Array Value} {below : List Frame} {meth : Method} {c : Code} {H : Heap} {locs : List Loc} {cells slots : Nat} {Q : State → Prop} {ls : Array Slot} {rest : List Value}
    (hd : decode (cf_code M) pc = .ok (.getfield idx, 3)) (hf : cf_F (cf_own M) idx ci k kind ty fin) (ho : cf_shl[o]? = some (.inl ci)) (C0 : cf_C g M p s m args meth c) (hP : va_P g.2.1 cf_cl (cf_ws g h) H)
    (kk : W p l e R s m args below meth c H locs cells slots Q (F0 m (pc + 3) ls (cf_fv g.1 h o ci k :: rest))) : W p l e R s m args below meth c H locs cells slots Q (F0 m pc ls (.ref (g.1 o) :: rest)) := by
  obtain ⟨hx, hb, hml, hr, hown, hts, hlk, hK, hCK, hi⟩ := C0
  obtain ⟨C, T, N, tys, hc, hin, hty, hnm, hk, hN, hkd, hty2, hfin, hC, hl⟩ := hf
  have he : (cf_ws g h)[o]? = some (g.1 o, .inr (ci, (List.range (cf_N ci)).map (cf_fv g.1 h o ci))) := cf_ws_at ho
  rcases hl with hl | ⟨host, hl⟩
  · exact va_get hx hb hts hin hown hK hP o he hc k hk (hts _ hl) (fun x h => by rw [hC] at h; exact h) (cf_fld_at hN hk) hd kk
  · exact va_getN hx hb hts hin hown hK hP o he hc k hk (hts _ hl) (fun x h => by rw [hC] at h; exact h) (cf_fld_at hN hk) hd kk
theorem cf_oth {g : cf_G} {h h' : cf_H} {o : Nat} (h1 : ∀ a, a ≠ o → ∀ b, h'.1 a b = h.1 a b) (h2 : ∀ a, a ≠ o → ∀ b, h'.2.1 a b = h.2.1 a b) (h3 : ∀ a, a ≠ o → ∀ b, h'.2.2.1 a b = h.2.2.1 a b) (h4 : ∀ a, a ≠ o → h'.2.2.2 a = h.2.2.2 a) : ∀ a z, cf_shl[a]? = some z → a ≠ o → cf_cell g h' a z = cf_cell g h a z := by
  intro a z _ ha
  unfold cf_cell
  cases z with
  | inl ci =>
    have : cf_fv g.1 h' a ci = cf_fv g.1 h a ci := by
      funext k
      unfold cf_fv
      rw [h1 a ha, h2 a ha, h3 a ha]
    simp only [this]
  | inr q =>
    obtain ⟨t, n⟩ := q
    simp only [h4 a ha]
theorem cf_putW {M : cf_M} {pc idx ci k kind o : Nat} {ty : FieldType} {h h' : cf_H} {v : Value} {g : cf_G} {p : Program} {l : Launch} {e : Env} {R : Room} {s : State} {m : MethodId} {args : Array Value} {below : List Frame} {meth : Method} {c : Code} {H : Heap} {locs : List Loc} {cells slots : Nat} {Q : State → Prop} {ls : Array Slot} {rest : List Value}
    (hd : decode (cf_code M) pc = .ok (.putfield idx, 3)) (hf : cf_F (cf_own M) idx ci k kind ty false) (ho : cf_shl[o]? = some (.inl ci)) (hn : narrow ty v = v) (hfit : fits ty v = true) (C0 : cf_C g M p s m args meth c) (hP : va_P g.2.1 cf_cl (cf_ws g h) H) (hS : va_S (cf_A g.1) s.heap H locs)
    (hv : cf_kd ci k = kind → cf_fv g.1 h' o ci k = v) (hsame : ∀ j, j ≠ k → cf_fv g.1 h' o ci j = cf_fv g.1 h o ci j) (hoth : ∀ a z, cf_shl[a]? = some z → a ≠ o → cf_cell g h' a z = cf_cell g h a z)
    (kk : ∀ H1 locs1, va_P g.2.1 cf_cl (cf_ws g h') H1 → va_S (cf_A g.1) s.heap H1 locs1 → W p l e R s m args below meth c H1 locs1 cells slots Q (F0 m (pc + 3) ls rest)) : W p l e R s m args below meth c H locs cells slots Q (F0 m pc ls (v :: .ref (g.1 o) :: rest)) := by
  obtain ⟨hx, hb, hml, hr, hown, hts, hlk, hK, hCK, hi⟩ := C0
  obtain ⟨C, T, N, tys, hc, hin, hty, hnm, hk, hN, hkd, hty2, hfin, hC, hl⟩ := hf
  have he : (cf_ws g h)[o]? = some (g.1 o, .inr (ci, (List.range (cf_N ci)).map (cf_fv g.1 h o ci))) := cf_ws_at ho
  have hset : (cf_ws g h).set o (g.1 o, .inr (ci, ((List.range (cf_N ci)).map (cf_fv g.1 h o ci)).set k v)) = cf_ws g h' := cf_ws_set ho (by show (Sum.inr (ci, _) : va_E) = _; rw [cf_fld_set hN hk (hv hkd) hsame]) hoth
  have hpd : parseFieldDescriptor (T k).2.2.1 = some ty := by rw [← hty2]; exact hty k hk
  have hlen : k < ((List.range (cf_N ci)).map (cf_fv g.1 h o ci)).length := by simp; omega
  rcases hl with hl | ⟨host, hl⟩
  · exact va_put hx hb hts hin tys hty hnm hown hK hP (cf_wD h hi) hS o he hc k hk (hts _ hl) (fun x h => by rw [hC] at h; exact h) hfin hpd hn hfit hlen hd (fun H1 locs1 q1 _ q3 => kk H1 locs1 (by rw [← hset]; exact q1) q3)
  · exact va_putN hx hb hts hin tys hty hnm hown hK hP (cf_wD h hi) hS o he hc k hk (hts _ hl) (fun x h => by rw [hC] at h; exact h) hfin hpd hn hfit hlen hd (fun H1 locs1 q1 _ q3 => kk H1 locs1 (by rw [← hset]; exact q1) q3)

theorem rp_getI {M : cf_M} {pc pc' idx ci k o : Nat} {ty : FieldType} {fin : Bool} {lv : List (Nat × Value)} {st : List Value} {h : cf_H} {P : Option Value → cf_H → Prop} (hd : cf_D M pc (.getfield idx) 3 pc') (hf : cf_F (cf_own M) idx ci k 0 ty fin) (ho : cf_shl[o]? = some (.inl ci)) (kk : RP M pc' lv (.int (h.1 o k) :: st) h P) : RP M pc lv (.ref o :: st) h P := by
  intro g p l e s m args below meth c C H locs ls hP hS hL
  obtain ⟨hd, rfl⟩ := hd
  have hkd : cf_kd ci k = 0 := by obtain ⟨_, _, _, _, _, _, _, _, _, _, q, _⟩ := hf; exact q
  refine cf_getW hd hf ho C hP ?_
  rw [cf_fv0 hkd]
  exact kk g p l e s m args below meth c C H locs ls hP hS hL
theorem rp_getJ {M : cf_M} {pc pc' idx ci k o : Nat} {ty : FieldType} {fin : Bool} {lv : List (Nat × Value)} {st : List Value} {h : cf_H} {P : Option Value → cf_H → Prop} (hd : cf_D M pc (.getfield idx) 3 pc') (hf : cf_F (cf_own M) idx ci k 1 ty fin) (ho : cf_shl[o]? = some (.inl ci)) (kk : RP M pc' lv (.long (h.2.1 o k) :: st) h P) : RP M pc lv (.ref o :: st) h P := by
  intro g p l e s m args below meth c C H locs ls hP hS hL
  obtain ⟨hd, rfl⟩ := hd
  have hkd : cf_kd ci k = 1 := by obtain ⟨_, _, _, _, _, _, _, _, _, _, q, _⟩ := hf; exact q
  refine cf_getW hd hf ho C hP ?_
  rw [cf_fv1 hkd]
  exact kk g p l e s m args below meth c C H locs ls hP hS hL
theorem rp_getR {M : cf_M} {pc pc' idx ci k o : Nat} {ty : FieldType} {fin : Bool} {lv : List (Nat × Value)} {st : List Value} {h : cf_H} {P : Option Value → cf_H → Prop} {q : Nat} (hd : cf_D M pc (.getfield idx) 3 pc') (hf : cf_F (cf_own M) idx ci k 2 ty fin) (ho : cf_shl[o]? = some (.inl ci)) (hq : h.2.2.1 o k = some q) (kk : RP M pc' lv (.ref q :: st) h P) : RP M pc lv (.ref o :: st) h P := by
  intro g p l e s m args below meth c C H locs ls hP hS hL
  obtain ⟨hd, rfl⟩ := hd
  have hkd : cf_kd ci k = 2 := by obtain ⟨_, _, _, _, _, _, _, _, _, _, q, _⟩ := hf; exact q
  refine cf_getW hd hf ho C hP ?_
  rw [cf_fv2 hkd, hq]
  exact kk g p l e s m args below meth c C H locs ls hP hS hL
theorem rp_putI {M : cf_M} {pc pc' idx ci k o : Nat} {ty : FieldType} {lv : List (Nat × Value)} {st : List Value} {h : cf_H} {P : Option Value → cf_H → Prop} {x : Int32} (hd : cf_D M pc (.putfield idx) 3 pc') (hf : cf_F (cf_own M) idx ci k 0 ty false) (ho : cf_shl[o]? = some (.inl ci)) (hn : narrow ty (.int x) = .int x) (hfit : fits ty (.int x) = true) (kk : RP M pc' lv st (cf_pI h o k x) P) : RP M pc lv (.int x :: .ref o :: st) h P := by
  intro g p l e s m args below meth c C H locs ls hP hS hL
  obtain ⟨hd, rfl⟩ := hd
  refine cf_putW hd hf ho hn hfit C hP hS (h' := cf_pI h o k x) (fun hkd => by rw [cf_fv0 hkd]; exact congrArg _ (cf_u2_same _ _ _ _)) (fun j hj => by simp only [cf_fv, cf_pI]; rw [cf_u2_k _ _ hj]) (cf_oth (fun a ha b => by first | rfl | exact cf_u2_o _ _ ha) (fun a ha b => by first | rfl | exact cf_u2_o _ _ ha) (fun a ha b => by first | rfl | exact cf_u2_o _ _ ha) (fun a ha => rfl)) (fun H1 locs1 q1 q2 => kk g p l e s m args below meth c C H1 locs1 ls q1 q2 hL)
theorem rp_putJ {M : cf_M} {pc pc' idx ci k o : Nat} {ty : FieldType} {lv : List (Nat × Value)} {st : List Value} {h : cf_H} {P : Option Value → cf_H → Prop} {x : Int64} (hd : cf_D M pc (.putfield idx) 3 pc') (hf : cf_F (cf_own M) idx ci k 1 ty false) (ho : cf_shl[o]? = some (.inl ci)) (hn : narrow ty (.long x) = .long x) (hfit : fits ty (.long x) = true) (kk : RP M pc' lv st (cf_pJ h o k x) P) : RP M pc lv (.long x :: .ref o :: st) h P := by
  intro g p l e s m args below meth c C H locs ls hP hS hL
  obtain ⟨hd, rfl⟩ := hd
  refine cf_putW hd hf ho hn hfit C hP hS (h' := cf_pJ h o k x) (fun hkd => by rw [cf_fv1 hkd]; exact congrArg _ (cf_u2_same _ _ _ _)) (fun j hj => by simp only [cf_fv, cf_pJ]; rw [cf_u2_k _ _ hj]) (cf_oth (fun a ha b => by first | rfl | exact cf_u2_o _ _ ha) (fun a ha b => by first | rfl | exact cf_u2_o _ _ ha) (fun a ha b => by first | rfl | exact cf_u2_o _ _ ha) (fun a ha => rfl)) (fun H1 locs1 q1 q2 => kk g p l e s m args below meth c C H1 locs1 ls q1 q2 hL)
theorem rp_putR {M : cf_M} {pc pc' idx ci k o : Nat} {ty : FieldType} {lv : List (Nat × Value)} {st : List Value} {h : cf_H} {P : Option Value → cf_H → Prop} {x : Nat} (hd : cf_D M pc (.putfield idx) 3 pc') (hf : cf_F (cf_own M) idx ci k 2 ty false) (ho : cf_shl[o]? = some (.inl ci)) (hn : ∀ a, narrow ty (.ref a) = .ref a) (hfit : ∀ a, fits ty (.ref a) = true) (kk : RP M pc' lv st (cf_pR h o k (some x)) P) : RP M pc lv (.ref x :: .ref o :: st) h P := by
  intro g p l e s m args below meth c C H locs ls hP hS hL
  obtain ⟨hd, rfl⟩ := hd
  refine cf_putW hd hf ho (hn _) (hfit _) C hP hS (h' := cf_pR h o k (some x)) (fun hkd => by rw [cf_fv2 hkd]; show va_rf ((cf_u2 h.2.2.1 o k (some x) o k).map g.1) = _; rw [cf_u2_same]; rfl) (fun j hj => by simp only [cf_fv, cf_pR]; rw [cf_u2_k _ _ hj]) (cf_oth (fun a ha b => by first | rfl | exact cf_u2_o _ _ ha) (fun a ha b => by first | rfl | exact cf_u2_o _ _ ha) (fun a ha b => by first | rfl | exact cf_u2_o _ _ ha) (fun a ha => rfl)) (fun H1 locs1 q1 q2 => kk g p l e s m args below meth c C H1 locs1 ls q1 q2 hL)
theorem rp_iaload {M : cf_M} {pc pc' o n : Nat} {lv : List (Nat × Value)} {st : List Value} {h : cf_H} {P : Option Value → cf_H → Prop} {i : Int32} (hd : cf_D M pc .iaload 1 pc') (ho : cf_shl[o]? = some (.inr (0, n))) (hin : vp_in i n) (kk : RP M pc' lv (.int (h.2.2.2 o i.toNatClampNeg) :: st) h P) : RP M pc lv (.int i :: .ref o :: st) h P := by
  intro g p l e s m args below meth c C H locs ls hP hS hL
  obtain ⟨hd, rfl⟩ := hd
  obtain ⟨hx, hb, hml, hr, hown, hts, hlk, hK, hCK, hi⟩ := id C
  exact va_iald hx hb hK hP o 0 (cf_ws_at ho) rfl hin hd (kk g p l e s m args below meth c C H locs ls hP hS hL)
theorem rp_caload {M : cf_M} {pc pc' o n : Nat} {lv : List (Nat × Value)} {st : List Value} {h : cf_H} {P : Option Value → cf_H → Prop} {i : Int32} (hd : cf_D M pc .caload 1 pc') (ho : cf_shl[o]? = some (.inr (1, n))) (hin : vp_in i n) (kk : RP M pc' lv (.int (h.2.2.2 o i.toNatClampNeg) :: st) h P) : RP M pc lv (.int i :: .ref o :: st) h P := by
  intro g p l e s m args below meth c C H locs ls hP hS hL
  obtain ⟨hd, rfl⟩ := hd
  obtain ⟨hx, hb, hml, hr, hown, hts, hlk, hK, hCK, hi⟩ := id C
  exact va_cald hx hb hK hP o 1 (cf_ws_at ho) rfl hin hd (kk g p l e s m args below meth c C H locs ls hP hS hL)
theorem rp_aaload {M : cf_M} {pc pc' o n : Nat} {lv : List (Nat × Value)} {st : List Value} {h : cf_H} {P : Option Value → cf_H → Prop} {i : Int32} {q : Nat} (hd : cf_D M pc .aaload 1 pc') (ho : cf_shl[o]? = some (.inr (2, n))) (hin : vp_in i n) (hq : cf_RA i.toNatClampNeg = some q) (kk : RP M pc' lv (.ref q :: st) h P) : RP M pc lv (.int i :: .ref o :: st) h P := by
  intro g p l e s m args below meth c C H locs ls hP hS hL
  obtain ⟨hd, rfl⟩ := hd
  obtain ⟨hx, hb, hml, hr, hown, hts, hlk, hK, hCK, hi⟩ := id C
  refine va_aldq hx hb hK hP o 2 (cf_ws_at ho) rfl hin hd ?_
  show W _ _ _ _ _ _ _ _ _ _ _ _ _ _ _ (F0 _ _ _ (va_rf ((cf_RA i.toNatClampNeg).map g.1) :: _))
  rw [hq]
  exact kk g p l e s m args below meth c C H locs ls hP hS hL
theorem rp_iastore {M : cf_M} {pc pc' o n : Nat} {lv : List (Nat × Value)} {st : List Value} {h : cf_H} {P : Option Value → cf_H → Prop} {i : Int32} {x : Int32} (hd : cf_D M pc .iastore 1 pc') (ho : cf_shl[o]? = some (.inr (0, n))) (hin : vp_in i n) (kk : RP M pc' lv st (cf_pA h o i (x)) P) : RP M pc lv (.int x :: .int i :: .ref o :: st) h P := by
  intro g p l e s m args below meth c C H locs ls hP hS hL
  obtain ⟨hd, rfl⟩ := hd
  obtain ⟨hx, hb, hml, hr, hown, hts, hlk, hK, hCK, hi⟩ := id C
  refine va_iast hx hb hK hP (cf_wD h hi) hS o 0 (cf_ws_at ho) rfl hin hd (fun H1 locs1 q1 _ q3 => kk g p l e s m args below meth c C H1 locs1 ls ?_ q3 hL)
  rw [cf_ws_set (h := h) (h' := cf_pA h o i (x)) ho (by show (Sum.inl (g.2.2 0, n, Sum.inl (cf_u1 h.2.2.2 o _ o)) : va_E) = _; rw [cf_u1_same]) (cf_oth (fun a ha b => rfl) (fun a ha b => rfl) (fun a ha b => rfl) (fun a ha => cf_u1_o _ _ ha))] at q1
  exact q1
theorem rp_castore {M : cf_M} {pc pc' o n : Nat} {lv : List (Nat × Value)} {st : List Value} {h : cf_H} {P : Option Value → cf_H → Prop} {i : Int32} {x : Int32} (hd : cf_D M pc .castore 1 pc') (ho : cf_shl[o]? = some (.inr (1, n))) (hin : vp_in i n) (kk : RP M pc' lv st (cf_pA h o i (vp_nar .char x)) P) : RP M pc lv (.int x :: .int i :: .ref o :: st) h P := by
  intro g p l e s m args below meth c C H locs ls hP hS hL
  obtain ⟨hd, rfl⟩ := hd
  obtain ⟨hx, hb, hml, hr, hown, hts, hlk, hK, hCK, hi⟩ := id C
  refine va_cast hx hb hK hP (cf_wD h hi) hS o 1 (cf_ws_at ho) rfl hin hd (fun H1 locs1 q1 _ q3 => kk g p l e s m args below meth c C H1 locs1 ls ?_ q3 hL)
  rw [cf_ws_set (h := h) (h' := cf_pA h o i (vp_nar .char x)) ho (by show (Sum.inl (g.2.2 1, n, Sum.inl (cf_u1 h.2.2.2 o _ o)) : va_E) = _; rw [cf_u1_same]) (cf_oth (fun a ha b => rfl) (fun a ha b => rfl) (fun a ha b => rfl) (fun a ha => cf_u1_o _ _ ha))] at q1
  exact q1
theorem rp_alen {M : cf_M} {pc pc' o n : Nat} {lv : List (Nat × Value)} {st : List Value} {h : cf_H} {P : Option Value → cf_H → Prop} {t : Nat} {ty : FieldType} {v : Int32} (hd : cf_D M pc .arraylength 1 pc') (ho : cf_shl[o]? = some (.inr (t, n))) (ht : ∀ dA, (cf_tys dA)[t]? = some (dA t, ty)) (hv : Int32.ofNat n = v) (kk : RP M pc' lv (.int v :: st) h P) : RP M pc lv (.ref o :: st) h P := by
  intro g p l e s m args below meth c C H locs ls hP hS hL
  obtain ⟨hd, rfl⟩ := hd
  obtain ⟨hx, hb, hml, hr, hown, hts, hlk, hK, hCK, hi⟩ := id C
  exact va_alen hx hb hK hP o t (cf_ws_at ho) (ht _) hv hd (kk g p l e s m args below meth c C H locs ls hP hS hL)
theorem rp_ialoadK {M : cf_M} {pc pc' o n : Nat} {lv : List (Nat × Value)} {st : List Value} {h : cf_H} {P : Option Value → cf_H → Prop} {i : Int32} {f : Nat → Value} {v : Value} (hd : cf_D M pc .iaload 1 pc') (ho : cf_ka o = some (.int, n, f)) (hin : vp_in i n) (hv : f i.toNatClampNeg = v) (ht : ∀ ad, cf_tr ad v = v) (kk : RP M pc' lv (v :: st) h P) : RP M pc lv (.int i :: .ref o :: st) h P := by
  intro g p l e s m args below meth c C H locs ls hP hS hL
  obtain ⟨hd, rfl⟩ := hd
  obtain ⟨hx, hb, hml, hr, hown, hts, hlk, hK, hCK, hi⟩ := id C
  refine va_ti hx hb (hCK.2.1 o _ _ _ ho) hS hin (hv.trans (ht g.1).symm) hd (kk g p l e s m args below meth c C H locs ls hP hS hL)
theorem rp_laloadK {M : cf_M} {pc pc' o n : Nat} {lv : List (Nat × Value)} {st : List Value} {h : cf_H} {P : Option Value → cf_H → Prop} {i : Int32} {f : Nat → Value} {v : Value} (hd : cf_D M pc .laload 1 pc') (ho : cf_ka o = some (.long, n, f)) (hin : vp_in i n) (hv : f i.toNatClampNeg = v) (ht : ∀ ad, cf_tr ad v = v) (kk : RP M pc' lv (v :: st) h P) : RP M pc lv (.int i :: .ref o :: st) h P := by
  intro g p l e s m args below meth c C H locs ls hP hS hL
  obtain ⟨hd, rfl⟩ := hd
  obtain ⟨hx, hb, hml, hr, hown, hts, hlk, hK, hCK, hi⟩ := id C
  refine va_tl hx hb (hCK.2.1 o _ _ _ ho) hS hin (hv.trans (ht g.1).symm) hd (kk g p l e s m args below meth c C H locs ls hP hS hL)
theorem rp_baloadK {M : cf_M} {pc pc' o n : Nat} {lv : List (Nat × Value)} {st : List Value} {h : cf_H} {P : Option Value → cf_H → Prop} {i : Int32} {f : Nat → Value} {v : Value} (hd : cf_D M pc .baload 1 pc') (ho : cf_ka o = some (.byte, n, f)) (hin : vp_in i n) (hv : f i.toNatClampNeg = v) (ht : ∀ ad, cf_tr ad v = v) (kk : RP M pc' lv (v :: st) h P) : RP M pc lv (.int i :: .ref o :: st) h P := by
  intro g p l e s m args below meth c C H locs ls hP hS hL
  obtain ⟨hd, rfl⟩ := hd
  obtain ⟨hx, hb, hml, hr, hown, hts, hlk, hK, hCK, hi⟩ := id C
  refine va_tb hx hb (hCK.2.1 o _ _ _ ho) hS hin (hv.trans (ht g.1).symm) hd (kk g p l e s m args below meth c C H locs ls hP hS hL)
theorem rp_alenK {M : cf_M} {pc pc' o n : Nat} {lv : List (Nat × Value)} {st : List Value} {h : cf_H} {P : Option Value → cf_H → Prop} {f : Nat → Value} {ty : FieldType} {v : Int32} (hd : cf_D M pc .arraylength 1 pc') (ho : cf_ka o = some (ty, n, f)) (hv : Int32.ofNat n = v) (kk : RP M pc' lv (.int v :: st) h P) : RP M pc lv (.ref o :: st) h P := by
  intro g p l e s m args below meth c C H locs ls hP hS hL
  obtain ⟨hd, rfl⟩ := hd
  obtain ⟨hx, hb, hml, hr, hown, hts, hlk, hK, hCK, hi⟩ := id C
  exact va_tlen hx hb (hCK.2.1 o _ _ _ ho) hS hv hd (kk g p l e s m args below meth c C H locs ls hP hS hL)
theorem rp_gets {M : cf_M} {pc pc' idx : Nat} {lv : List (Nat × Value)} {st : List Value} {h : cf_H} {P : Option Value → cf_H → Prop} {C n d : String} {v : Value} (hd : cf_D M pc (.getstatic idx) 3 pc') (hq : (C, n, d, v) ∈ cf_sts) (hw : Cond.fieldLink (cf_own M) idx C n d ∈ cf_T) (kk : RP M pc' lv (v :: st) h P) : RP M pc lv st h P := by
  intro g p l e s m args below meth c C0 H locs ls hP hS hL
  obtain ⟨hd, rfl⟩ := hd
  obtain ⟨hx, hb, hml, hr, hown, hts, hlk, hK, hCK, hi⟩ := id C0
  exact va_gets hx hb (hCK.1 _ hq) hS hown (hts _ hw) (fun x h => h) hd (kk g p l e s m args below meth c C0 H locs ls hP hS hL)
theorem rp_getsN {M : cf_M} {pc pc' idx : Nat} {lv : List (Nat × Value)} {st : List Value} {h : cf_H} {P : Option Value → cf_H → Prop} {C n d host : String} {v : Value} (hd : cf_D M pc (.getstatic idx) 3 pc') (hq : (C, n, d, v) ∈ cf_sts) (hw : Cond.fieldLinkNest (cf_own M) idx C n d host ∈ cf_T) (kk : RP M pc' lv (v :: st) h P) : RP M pc lv st h P := by
  intro g p l e s m args below meth c C0 H locs ls hP hS hL
  obtain ⟨hd, rfl⟩ := hd
  obtain ⟨hx, hb, hml, hr, hown, hts, hlk, hK, hCK, hi⟩ := id C0
  exact va_getsN hx hb (hCK.1 _ hq) hS hown (hts _ hw) (fun x h => h) hd (kk g p l e s m args below meth c C0 H locs ls hP hS hL)
theorem rp_getsQ {M : cf_M} {pc pc' idx : Nat} {lv : List (Nat × Value)} {st : List Value} {h : cf_H} {P : Option Value → cf_H → Prop} (hd : cf_D M pc (.getstatic idx) 3 pc') (hw : Cond.fieldLink (cf_own M) idx "jdk/internal/util/Preconditions" "SIOOBE_FORMATTER" "Ljava/util/function/BiFunction;" ∈ cf_T) (k1 : RP M pc' lv (.null :: st) h P) (k2 : RP M pc' lv (.ref 199 :: st) h P) : RP M pc lv st h P := by
  intro g p l e s m args below meth c C H locs ls hP hS hL
  obtain ⟨hd, rfl⟩ := hd
  obtain ⟨hx, hb, hml, hr, hown, hts, hlk, hK, hCK, hi⟩ := id C
  rcases hCK.2.2.2 with hz | hz
  · exact va_gets hx hb hz hS hown (hts _ hw) (fun x h => h) hd (k1 g p l e s m args below meth c C H locs ls hP hS hL)
  · exact va_gets hx hb hz hS hown (hts _ hw) (fun x h => h) hd (k2 g p l e s m args below meth c C H locs ls hP hS hL)
theorem rp_ldcS {M : cf_M} {pc pc' idx : Nat} {lv : List (Nat × Value)} {st : List Value} {h : cf_H} {P : Option Value → cf_H → Prop} {i : Nat} {tx : String} (hd : cf_D M pc (.ldc idx) 2 pc') (hq : cf_strs[i]? = some (cf_own M, idx, tx)) (kk : RP M pc' lv (.ref (110 + i) :: st) h P) : RP M pc lv st h P := by
  intro g p l e s m args below meth c C H locs ls hP hS hL
  obtain ⟨hd, rfl⟩ := hd
  obtain ⟨hx, hb, hml, hr, hown, hts, hlk, hK, hCK, hi⟩ := id C
  exact va_ldcS hx hb hown (hCK.2.2.1 _ _ _ _ hq).1 hd (kk g p l e s m args below meth c C H locs ls hP hS hL)
theorem rp_getSv {M : cf_M} {pc pc' idx : Nat} {lv : List (Nat × Value)} {st : List Value} {h : cf_H} {P : Option Value → cf_H → Prop} {i : Nat} {q : String × Nat × String} (hd : cf_D M pc (.getfield idx) 3 pc') (hq : cf_strs[i]? = some q) (hw : Cond.fieldLink (cf_own M) idx "java/lang/String" "value" "[B" ∈ cf_T) (kk : RP M pc' lv (.ref (130 + i) :: st) h P) : RP M pc lv (.ref (110 + i) :: st) h P := by
  intro g p l e s m args below meth c C H locs ls hP hS hL
  obtain ⟨hd, rfl⟩ := hd
  obtain ⟨hx, hb, hml, hr, hown, hts, hlk, hK, hCK, hi⟩ := id C
  exact vk_getf hx hb (hCK.2.2.1 _ _ _ _ hq).2.2.2 hS hown (hts _ hw) (fun x h => h) hd (kk g p l e s m args below meth c C H locs ls hP hS hL)
theorem rp_getSc {M : cf_M} {pc pc' idx : Nat} {lv : List (Nat × Value)} {st : List Value} {h : cf_H} {P : Option Value → cf_H → Prop} {i : Nat} {q : String × Nat × String} (hd : cf_D M pc (.getfield idx) 3 pc') (hq : cf_strs[i]? = some q) (hw : Cond.fieldLink (cf_own M) idx "java/lang/String" "coder" "B" ∈ cf_T) (kk : RP M pc' lv (.int 0 :: st) h P) : RP M pc lv (.ref (110 + i) :: st) h P := by
  intro g p l e s m args below meth c C H locs ls hP hS hL
  obtain ⟨hd, rfl⟩ := hd
  obtain ⟨hx, hb, hml, hr, hown, hts, hlk, hK, hCK, hi⟩ := id C
  exact vk_getf hx hb (hCK.2.2.1 _ _ _ _ hq).2.2.1 hS hown (hts _ hw) (fun x h => h) hd (kk g p l e s m args below meth c C H locs ls hP hS hL)
end
section
/-! CALLS -/
theorem cf_good {ws : List Cond} (h : ∀ w ∈ ws, w ∈ cf_T) : GoodIn cf_T ws := fun w hw => ⟨h w hw, good_of_word (List.mem_filter.mp (h w hw)).2⟩
theorem cf_E.at {g : cf_G} {s U : State} (hE : cf_E g s s.heap) (hq : ∀ a : Nat, a < s.heap.size → ¬ cf_A g.1 a → U.heap[a]? = s.heap[a]?) (hW : s.WarmedH U.vm) : cf_E g U U.heap := by
  obtain ⟨hK, ⟨h1, h2, h3, h4⟩, hi⟩ := hE
  have hvm := hW.alike
  refine ⟨va_K.moved hvm hK, ⟨fun q hm => va_Z.moved hvm ((h1 q hm).kept hq), fun k ty n f hk => va_T.moved hvm ((h2 k ty n f hk).kept hq), fun i own idx tx hi => ?_, ?_⟩, hi⟩
  · obtain ⟨a, b, c, d⟩ := h3 i own idx tx hi
    exact ⟨a.warm hW, va_O.moved hvm (b.kept hq), va_OF.moved hvm (c.kept hq), va_OF.moved hvm (d.kept hq)⟩
  · rcases h4 with h | h
    · exact Or.inl (va_Z.moved hvm (h.kept hq))
    · exact Or.inr (va_Z.moved hvm (h.kept hq))
theorem cf_E.same {g : cf_G} {U V : State} (hE : cf_E g U U.heap) (hv : V.vm = U.vm) (hh : V.heap = U.heap) : cf_E g V V.heap := by
  obtain ⟨hK, ⟨h1, h2, h3, h4⟩, hi⟩ := hE
  have hvm : U.vm.Alike V.vm := by rw [hv]; exact Vm.Alike.refl _
  rw [hh]
  refine ⟨va_K.moved hvm hK, ⟨fun q hm => va_Z.moved hvm (h1 q hm), fun k ty n f hk => va_T.moved hvm (h2 k ty n f hk), fun i own idx tx hi => ?_, ?_⟩, hi⟩
  · obtain ⟨a, b, c, d⟩ := h3 i own idx tx hi
    exact ⟨vk_R.same hv a, va_O.moved hvm b, va_OF.moved hvm c, va_OF.moved hvm d⟩
  · rcases h4 with h | h
    · exact Or.inl (va_Z.moved hvm h)
    · exact Or.inr (va_Z.moved hvm h)
def cf_Pc (g : cf_G) (vs : List Value) (h : cf_H) : Array Value → State → Prop := fun a U => a = (vs.map (cf_tr g.1)).toArray ∧ va_P g.2.1 cf_cl (cf_ws g h) U.heap ∧ cf_E g U U.heap
theorem cf_blind (g : cf_G) (vs : List Value) (h : cf_H) : FrameBlind (cf_Pc g vs h) := fun a U gg mk q => ⟨q.1, q.2.1, cf_E.same q.2.2 rfl rfl⟩
def cf_c2 (v : Value) : Bool := match v with
  | .long _ => true
  | .double _ => true
  | _ => false
def cf_args : Nat → List Value → List (Nat × Value)
  | _, [] => []
  | i, v :: vs => (i, v) :: cf_args (bif cf_c2 v then i + 2 else i + 1) vs
theorem cf_args_mem (ad : Nat → Nat) : ∀ (vs : List Value) (i j : Nat) (v : Value), cf_lk (cf_args i vs) j = some v → (j, cf_tr ad v) ∈ lv_args i (vs.map (cf_tr ad)) := by
  intro vs
  induction vs with
  | nil => intro i j v h; cases h
  | cons w vs ih =>
    intro i j v h
    unfold cf_args cf_lk at h
    simp only [List.map_cons, lv_args]
    cases hb : Nat.beq i j with
    | true =>
      rw [hb] at h
      have : i = j := Nat.eq_of_beq_eq_true hb
      subst this
      cases h
      exact List.mem_cons_self
    | false =>
      rw [hb] at h
      refine List.mem_cons_of_mem _ ?_
      rw [cf_tr_cat]
      have := ih _ j v h
      cases w <;> exact this
theorem cf_slots (ad : Nat → Nat) : ∀ vs : List Value, (lg_sl (vs.map (cf_tr ad))).length = (vs.map Value.category).sum := by
  intro vs
  induction vs with
  | nil => rfl
  | cons v vs ih =>
    have e : lg_sl ((v :: vs).map (cf_tr ad)) = (if (cf_tr ad v).category = 2 then [.val (cf_tr ad v), .second] else [.val (cf_tr ad v)]) ++ lg_sl (vs.map (cf_tr ad)) := by
      simp [lg_sl]
    rw [e, List.length_append, ih, cf_tr_cat]
    simp only [List.map_cons, List.sum_cons]
    rcases lv_cat v with h | h <;> simp [h]
theorem cf_cats (ad : Nat → Nat) (vs : List Value) : ((vs.map (cf_tr ad)).map fun v => v.category).sum = (vs.map Value.category).sum := by
  rw [List.map_map]
  congr 1
  apply List.map_congr_left
  intro v _
  exact cf_tr_cat ad v
theorem cf_ofW {l : Launch} {y : MethodName} {ws ws' : List Cond} {rm : Room} {Pc : Array Value → State → Prop} {Qc : Array Value → State → Outcome → State → Prop} {mc ms : Nat} {free : Addr → Prop} {cc : ByteArray} {maxL : Nat} {ret : Option FieldType}
    (hy : plainFor y = true) (hw : ws = Cond.code y cc maxL ret :: ws')
    (body : ∀ p e s m args below meth c s₁, BodyLoose p l y (headSpec ws rm) cc maxL ret e s m args below meth c s₁ → c.maxLocals = maxL → Pc args s →
      W p l e (headSpec ws rm).room s m args below meth c s.heap [] 0 0 (MQ below Qc args s mc ms free) (entryFrame m args maxL)) : Met l y ws rm Pc Qc mc ms free := by
  refine MetFree.of_bodySF (code := cc) (maxLocals := maxL) (ret := ret) hy ?_ ?_
  · intro args s m h hn
    obtain ⟨meth, c, h1, h2, h3, h4, h5, h6, -, -⟩ := Cond.code_spec hn (atoms_spec (ws := ws) h _ (by rw [hw]; exact List.mem_cons_self))
    exact ⟨meth, c, h1, h2, h3, h4, h5, h6⟩
  · intro p e s m args below meth c s₁ B hml hP _
    have hh0 : s₁.heap = s.heap := by rw [B.state]; rfl
    obtain ⟨t, a1, o, b1, b2, b3⟩ := body p e s m args below meth c s₁ B hml hP s₁ hh0 (Stand.of_body B)
    exact ⟨t, o, a1, b1, b2, ⟨b3.1, b3.2⟩⟩
theorem cf_met {g : cf_G} {Y : cf_M} {vs : List Value} {h : cf_H} {P : Option Value → cf_H → Prop} (l : Launch) (hy : plainFor Y.1 = true) (hfit : (vs.map Value.category).sum ≤ cf_mL Y) (hR : RP Y 0 (cf_args 0 vs) [] h P) : Met l Y.1 (cf_wsM Y) (cf_rm Y) (cf_Pc g vs h) (cf_Qc g P) 0 0 (cf_A g.1) := by
  refine cf_ofW (cc := cf_code Y) (maxL := cf_mL Y) (ret := cf_ret Y) (ws' := cf_T) hy rfl ?_
  intro p e s m args below meth c s₁ B hml hv
  obtain ⟨rfl, hP, hE⟩ := hv
  have hts := atoms_spec (ws := cf_wsM Y) B.pre
  have hown : s.vm.findClass (cf_own Y) = some m.cls := findClass_of_methodNamed B.named
  have hl := lv_entry (vs.map (cf_tr g.1)) (n := cf_mL Y) (by rw [cf_slots]; exact hfit)
  rw [lg_entry_eq]
  exact hR g p l e s m _ below meth c ⟨B.exec, B.bytes, hml, B.returns, hown, fun w hw => hts w (List.mem_cons_of_mem _ hw), B.notSynchronized, hE⟩ s.heap [] _ hP va_S.rf ⟨_, hl, fun i v hi _ => cf_args_mem g.1 vs 0 i v hi⟩
def cf_Y (Y : cf_M) (n : Nat) : Prop := Cond.code Y.1 (cf_code Y) (cf_mL Y) (cf_ret Y) ∈ cf_T ∧ plainFor Y.1 = true ∧ (Y.1.cls ≠ "java/lang/invoke/MethodHandle" ∧ Y.1.cls ≠ "java/lang/invoke/VarHandle" ∧ (parseMethodDescriptor Y.1.desc).map (fun d => d.parameters.length) = some n) ∧ Cond.initialized Y.1.cls ∈ cf_T
def cf_cv (own : String) (idx : Nat) (Y : cf_M) : Prop := Cond.methodLink own idx Y.1 ∈ cf_T ∧ Cond.instanceMethod Y.1 ∈ cf_T ∧ Cond.selects Y.1.cls Y.1 Y.1 ∈ cf_T
def cf_cs (own : String) (idx : Nat) (Y : cf_M) : Prop := (Cond.methodLink own idx Y.1 ∈ cf_T ∨ ∃ host, Cond.methodLinkNest own idx Y.1 host ∈ cf_T) ∧ Cond.static Y.1 ∈ cf_T
def cf_rl (Y : cf_M) (R : Room) : Prop := (cf_rm Y).frames + 1 ≤ R.frames ∧ 8 + (cf_mL Y + 11) + (cf_rm Y).locals ≤ R.locals
def cf_rv (o : Nat) (C : String) : Prop := (∃ ci T N, cf_shl[o]? = some (.inl ci) ∧ cf_cl[ci]? = some (C, T, N)) ∨ (∃ i q, o = 110 + i ∧ cf_strs[i]? = some q ∧ C = "java/lang/String")
section CFR
variable {g : cf_G} {M Y : cf_M} {n pc idx o : Nat} {As rest : List Value} {h : cf_H} {P1 : Option Value → cf_H → Prop} {p : Program} {l : Launch} {e : Env} {R : Room} {s : State} {m : MethodId} {args : Array Value} {below : List Frame} {meth : Method} {c : Code} {H : Heap} {locs : List Loc} {cells slots : Nat} {Q : State → Prop} {ls : Array Slot}
theorem cf_callW {a : Array Value} {st0 rest' : List Value} {A0 : Nat → Prop} {H0 : Heap} (hr : va_Run p l e R s m args below meth c H locs cells slots 0 0 (F0 m pc ls st0) rest' (cf_Qc g P1 a) (cf_A g.1)) (hS : va_S A0 H0 H locs) (hA : ∀ q, cf_A g.1 q → A0 q)
    (kk : ∀ (r : Option Value) (h' : cf_H) (H1 : Heap) (locs1 : List Loc), P1 r h' → va_P g.2.1 cf_cl (cf_ws g h') H1 → va_S A0 H0 H1 locs1 → W p l e R s m args below meth c H1 locs1 cells slots Q (F0 m (pc + 3) ls ((r.map (cf_tr g.1)).toList ++ rest'))) : W p l e R s m args below meth c H locs cells slots Q (F0 m pc ls st0) := by
  intro T hT X
  obtain ⟨v, st₀, t, T', L, h0, X', hL, e1, e2, ⟨⟨r, h', hv, hp, hb⟩, hz, hk⟩, st⟩ := hr T hT X
  cases hv
  rw [h0] at hz hk
  obtain ⟨t2, a1, b1⟩ := kk r h' T'.heap (locs ++ L) hp (by rw [e1]; exact hb)
    ⟨Nat.le_trans hS.1 (by rw [e1]; exact hz), fun q h1 h2 => by rw [e1, hk q (Nat.lt_of_lt_of_le h1 hS.1) (fun z => h2 (hA q z))]; exact hS.2.1 q h1 h2, fun q hq => by
      rcases List.mem_append.mp hq with h | h
      · exact hS.2.2 q h
      · exact hA _ (hL q h)⟩ T' rfl X'
  exact ⟨t2, st t2 a1, b1⟩
theorem cf_runV (C0 : cf_C g M p s m args meth c) (hP : va_P g.2.1 cf_cl (cf_ws g h) H) (hq : ∀ a : Nat, a < s.heap.size → ¬ cf_A g.1 a → H[a]? = s.heap[a]?) (hY : cf_Y Y n) (hw : cf_cv (cf_own M) idx Y) (hR : cf_rl Y R) (hrv : cf_rv o Y.1.cls) (hlen : As.length = n) (hfit : ((Value.ref o :: As).map Value.category).sum ≤ cf_mL Y) (hst : (rest.map Value.category).sum ≤ 8) (hls : ls.size = cf_mL M)
    (hd : decode (cf_code M) pc = .ok (.invokevirtual idx, 3)) (hb : RP Y 0 (cf_args 0 (.ref o :: As)) [] h P1) (hc : cells ≤ R.cells ∧ slots ≤ R.slots) :
    va_Run p l e R s m args below meth c H locs cells slots 0 0 (F0 m pc ls ((As.map (cf_tr g.1)).reverse ++ .ref (g.1 o) :: rest.map (cf_tr g.1))) (rest.map (cf_tr g.1)) (cf_Qc g P1 (Value.ref (g.1 o) :: As.map (cf_tr g.1)).toArray) (cf_A g.1) := by
  obtain ⟨hx, hbc, hml, hr, hown, hts, hlk, hE⟩ := C0
  obtain ⟨hco, hpl, hnm, hini⟩ := hY
  obtain ⟨hl, hin, hsel⟩ := hw
  have hgood : GoodIn cf_T (wsV (cf_own M) idx Y.1.cls Y.1 (cf_wsM Y)) := cf_good (fun w hw => by
    unfold wsV at hw
    rcases List.mem_append.mp hw with hw | hw
    · simp only [List.mem_cons, List.not_mem_nil, or_false] at hw
      rcases hw with rfl | rfl | rfl | rfl
      · exact hl
      · exact hin
      · exact hsel
      · exact hini
    · rcases List.mem_cons.mp hw with rfl | hw
      · exact hco
      · exact hw)
  refine va_runV (cc := cf_code M) (nL := cf_mL M) (C := Y.1.cls) (As := As.map (cf_tr g.1)) (n := n) ⟨hx, hbc, hml, hown, hts⟩ (cf_met (g := g) (vs := .ref o :: As) l hpl hfit hb) (cwV n hts hgood rfl rfl rfl ⟨rfl, hnm⟩ hR) ⟨cf_blind _ _ _, ?_, fun U hU hW => ⟨rfl, by rw [hU]; exact hP, hE.at (by rw [hU]; exact hq) hW⟩⟩ rfl (by simpa using hlen) hls rfl (lv_room (by rw [cf_cats]; exact hst)) hd hc
  rcases hrv with ⟨ci, T, N, h1, h2⟩ | ⟨i, q, h1, h2, h3⟩
  · exact va_recv hE.1 hP h2 (cf_ws_at h1)
  · subst h1
    rw [h3]
    obtain ⟨_, hO, _⟩ := hE.2.1.2.2.1 i _ _ _ h2
    obtain ⟨cell, q1, q2, q3, q4⟩ := hO
    exact ⟨cell, by rw [hq _ (Array.getElem?_eq_some_iff.mp q1).1 q4]; exact q1, q2, q3⟩
theorem cf_runS (C0 : cf_C g M p s m args meth c) (hP : va_P g.2.1 cf_cl (cf_ws g h) H) (hq : ∀ a : Nat, a < s.heap.size → ¬ cf_A g.1 a → H[a]? = s.heap[a]?) (hY : cf_Y Y n) (hw : cf_cs (cf_own M) idx Y) (hR : cf_rl Y R) (hlen : As.length = n) (hfit : (As.map Value.category).sum ≤ cf_mL Y) (hst : (rest.map Value.category).sum ≤ 8) (hls : ls.size = cf_mL M)
    (hd : decode (cf_code M) pc = .ok (.invokestatic idx, 3)) (hb : RP Y 0 (cf_args 0 As) [] h P1) (hc : cells ≤ R.cells ∧ slots ≤ R.slots) :
    va_Run p l e R s m args below meth c H locs cells slots 0 0 (F0 m pc ls ((As.map (cf_tr g.1)).reverse ++ rest.map (cf_tr g.1))) (rest.map (cf_tr g.1)) (cf_Qc g P1 (As.map (cf_tr g.1)).toArray) (cf_A g.1) := by
  obtain ⟨hx, hbc, hml, hr, hown, hts, hlk, hE⟩ := C0
  obtain ⟨hco, hpl, hnm, hini⟩ := hY
  obtain ⟨hl, hstt⟩ := hw
  have hg0 : GoodIn cf_T (cf_wsM Y) := cf_good (fun w hw => by
    rcases List.mem_cons.mp hw with rfl | hw
    · exact hco
    · exact hw)
  have hp : PreS s H (cf_Pc g As h) (As.map (cf_tr g.1)) := ⟨cf_blind _ _ _, fun U hU hW => ⟨rfl, by rw [hU]; exact hP, hE.at (by rw [hU]; exact hq) hW⟩⟩
  rcases hl with hl | ⟨host, hl⟩
  · have hgood : GoodIn cf_T (va_wsS (cf_own M) idx Y.1 (cf_wsM Y)) := cf_good (fun w hw => by
      unfold va_wsS at hw
      rcases List.mem_append.mp hw with hw | hw
      · simp only [List.mem_cons, List.not_mem_nil, or_false] at hw
        rcases hw with rfl | rfl | rfl
        · exact hl
        · exact hstt
        · exact hini
      · exact (hg0 w hw).1)
    exact va_runS (cc := cf_code M) (nL := cf_mL M) (As := As.map (cf_tr g.1)) (n := n) ⟨hx, hbc, hml, hown, hts⟩ (cf_met (g := g) (vs := As) l hpl hfit hb) (va_cwS n hts hgood rfl rfl rfl hnm hR) hp rfl (by simpa using hlen) hls rfl (lv_room (by rw [cf_cats]; exact hst)) hd hc
  · exact va_runSN (cc := cf_code M) (nL := cf_mL M) (As := As.map (cf_tr g.1)) (n := n) ⟨hx, hbc, hml, hown, hts⟩ (cf_met (g := g) (vs := As) l hpl hfit hb) ⟨va_cnB n hts hg0 rfl rfl rfl (va_tabs rfl rfl (hts _ hl)) (hts _ hini) hnm hR, hts _ hstt, trivial⟩ hp rfl (by simpa using hlen) hls rfl (lv_room (by rw [cf_cats]; exact hst)) hd hc
end CFR
def cf_push (r : Option Value) (st : List Value) : List Value := match r with
  | some v => v :: st
  | none => st
theorem cf_push_tr (ad : Nat → Nat) (r : Option Value) (st : List Value) : (r.map (cf_tr ad)).toList ++ st.map (cf_tr ad) = (cf_push r st).map (cf_tr ad) := by cases r <;> rfl
def cf_qv (M : cf_M) (idx : Nat) (Y : cf_M) (n : Nat) : Prop := cf_cv (cf_own M) idx Y ∧ cf_Y Y n ∧ cf_rl Y (cf_rm M)
def cf_qs (M : cf_M) (idx : Nat) (Y : cf_M) (n : Nat) : Prop := cf_cs (cf_own M) idx Y ∧ cf_Y Y n ∧ cf_rl Y (cf_rm M)
theorem rp_callV {M Y : cf_M} {pc pc' idx o n : Nat} {lv : List (Nat × Value)} {st As : List Value} {h : cf_H} {P : Option Value → cf_H → Prop} (hd : cf_D M pc (.invokevirtual idx) 3 pc') (hw : cf_qv M idx Y n) (hrv : cf_rv o Y.1.cls) (hlen : As.length = n) (hfit : ((Value.ref o :: As).map Value.category).sum ≤ cf_mL Y) (hst : (st.map Value.category).sum ≤ 8)
    (k : RP Y 0 (cf_args 0 (.ref o :: As)) [] h (fun r h' => RP M pc' lv (cf_push r st) h' P)) : RP M pc lv (As.reverse ++ .ref o :: st) h P := by
  intro g p l e s m args below meth c C H locs ls hP hS hL
  obtain ⟨hd, rfl⟩ := hd
  obtain ⟨hw, hY, hR⟩ := hw
  have hls : ls.size = cf_mL M := by obtain ⟨_, h1, _⟩ := hL; exact h1.1
  have hr := cf_runV (l := l) (e := e) (below := below) (locs := locs) (cells := 0) (slots := 0) (R := cf_rm M) C hP hS.2.1 hY hw hR hrv hlen hfit hst hls hd k ⟨Nat.zero_le _, Nat.zero_le _⟩
  have e1 : (As.reverse ++ .ref o :: st).map (cf_tr g.1) = (As.map (cf_tr g.1)).reverse ++ .ref (g.1 o) :: st.map (cf_tr g.1) := by simp [cf_tr]
  rw [e1]
  refine cf_callW hr hS (fun _ z => z) (fun r h' H1 locs1 q1 q2 q3 => ?_)
  rw [cf_push_tr]
  exact q1 g p l e s m args below meth c C H1 locs1 ls q2 q3 hL
theorem rp_callS {M Y : cf_M} {pc pc' idx n : Nat} {lv : List (Nat × Value)} {st As : List Value} {h : cf_H} {P : Option Value → cf_H → Prop} (hd : cf_D M pc (.invokestatic idx) 3 pc') (hw : cf_qs M idx Y n) (hlen : As.length = n) (hfit : (As.map Value.category).sum ≤ cf_mL Y) (hst : (st.map Value.category).sum ≤ 8)
    (k : RP Y 0 (cf_args 0 As) [] h (fun r h' => RP M pc' lv (cf_push r st) h' P)) : RP M pc lv (As.reverse ++ st) h P := by
  intro g p l e s m args below meth c C H locs ls hP hS hL
  obtain ⟨hd, rfl⟩ := hd
  obtain ⟨hw, hY, hR⟩ := hw
  have hls : ls.size = cf_mL M := by obtain ⟨_, h1, _⟩ := hL; exact h1.1
  have hr := cf_runS (l := l) (e := e) (below := below) (locs := locs) (cells := 0) (slots := 0) (R := cf_rm M) C hP hS.2.1 hY hw hR hlen hfit hst hls hd k ⟨Nat.zero_le _, Nat.zero_le _⟩
  have e1 : (As.reverse ++ st).map (cf_tr g.1) = (As.map (cf_tr g.1)).reverse ++ st.map (cf_tr g.1) := by simp
  rw [e1]
  refine cf_callW hr hS (fun _ z => z) (fun r h' H1 locs1 q1 q2 q3 => ?_)
  rw [cf_push_tr]
  exact q1 g p l e s m args below meth c C H1 locs1 ls q2 q3 hL

theorem rp_callV0 {M Y : cf_M} {pc pc' idx o : Nat} {lv : List (Nat × Value)} {st : List Value} {h : cf_H} {P : Option Value → cf_H → Prop} (hd : cf_D M pc (.invokevirtual idx) 3 pc') (hw : cf_qv M idx Y 0) (hrv : cf_rv o Y.1.cls) (hfit : (([.ref o] : List Value).map Value.category).sum ≤ cf_mL Y) (hst : (st.map Value.category).sum ≤ 8) (k : RP Y 0 (cf_args 0 [.ref o]) [] h (fun r h' => RP M pc' lv (cf_push r st) h' P)) : RP M pc lv (.ref o :: st) h P := rp_callV (As := []) hd hw hrv rfl hfit hst k
theorem rp_callV1 {M Y : cf_M} {pc pc' idx o : Nat} {lv : List (Nat × Value)} {st : List Value} {a1 : Value} {h : cf_H} {P : Option Value → cf_H → Prop} (hd : cf_D M pc (.invokevirtual idx) 3 pc') (hw : cf_qv M idx Y 1) (hrv : cf_rv o Y.1.cls) (hfit : (([.ref o, a1] : List Value).map Value.category).sum ≤ cf_mL Y) (hst : (st.map Value.category).sum ≤ 8) (k : RP Y 0 (cf_args 0 [.ref o, a1]) [] h (fun r h' => RP M pc' lv (cf_push r st) h' P)) : RP M pc lv (a1 :: .ref o :: st) h P := rp_callV (As := [a1]) hd hw hrv rfl hfit hst k
theorem rp_callS1 {M Y : cf_M} {pc pc' idx : Nat} {lv : List (Nat × Value)} {st : List Value} {a1 : Value} {h : cf_H} {P : Option Value → cf_H → Prop} (hd : cf_D M pc (.invokestatic idx) 3 pc') (hw : cf_qs M idx Y 1) (hfit : (([a1] : List Value).map Value.category).sum ≤ cf_mL Y) (hst : (st.map Value.category).sum ≤ 8) (k : RP Y 0 (cf_args 0 [a1]) [] h (fun r h' => RP M pc' lv (cf_push r st) h' P)) : RP M pc lv (a1 :: st) h P := rp_callS (As := [a1]) hd hw rfl hfit hst k
theorem rp_callV2 {M Y : cf_M} {pc pc' idx o : Nat} {lv : List (Nat × Value)} {st : List Value} {a1 a2 : Value} {h : cf_H} {P : Option Value → cf_H → Prop} (hd : cf_D M pc (.invokevirtual idx) 3 pc') (hw : cf_qv M idx Y 2) (hrv : cf_rv o Y.1.cls) (hfit : (([.ref o, a1, a2] : List Value).map Value.category).sum ≤ cf_mL Y) (hst : (st.map Value.category).sum ≤ 8) (k : RP Y 0 (cf_args 0 [.ref o, a1, a2]) [] h (fun r h' => RP M pc' lv (cf_push r st) h' P)) : RP M pc lv (a2 :: a1 :: .ref o :: st) h P := rp_callV (As := [a1, a2]) hd hw hrv rfl hfit hst k
theorem rp_callS2 {M Y : cf_M} {pc pc' idx : Nat} {lv : List (Nat × Value)} {st : List Value} {a1 a2 : Value} {h : cf_H} {P : Option Value → cf_H → Prop} (hd : cf_D M pc (.invokestatic idx) 3 pc') (hw : cf_qs M idx Y 2) (hfit : (([a1, a2] : List Value).map Value.category).sum ≤ cf_mL Y) (hst : (st.map Value.category).sum ≤ 8) (k : RP Y 0 (cf_args 0 [a1, a2]) [] h (fun r h' => RP M pc' lv (cf_push r st) h' P)) : RP M pc lv (a2 :: a1 :: st) h P := rp_callS (As := [a1, a2]) hd hw rfl hfit hst k
theorem rp_callV3 {M Y : cf_M} {pc pc' idx o : Nat} {lv : List (Nat × Value)} {st : List Value} {a1 a2 a3 : Value} {h : cf_H} {P : Option Value → cf_H → Prop} (hd : cf_D M pc (.invokevirtual idx) 3 pc') (hw : cf_qv M idx Y 3) (hrv : cf_rv o Y.1.cls) (hfit : (([.ref o, a1, a2, a3] : List Value).map Value.category).sum ≤ cf_mL Y) (hst : (st.map Value.category).sum ≤ 8) (k : RP Y 0 (cf_args 0 [.ref o, a1, a2, a3]) [] h (fun r h' => RP M pc' lv (cf_push r st) h' P)) : RP M pc lv (a3 :: a2 :: a1 :: .ref o :: st) h P := rp_callV (As := [a1, a2, a3]) hd hw hrv rfl hfit hst k
theorem rp_callS3 {M Y : cf_M} {pc pc' idx : Nat} {lv : List (Nat × Value)} {st : List Value} {a1 a2 a3 : Value} {h : cf_H} {P : Option Value → cf_H → Prop} (hd : cf_D M pc (.invokestatic idx) 3 pc') (hw : cf_qs M idx Y 3) (hfit : (([a1, a2, a3] : List Value).map Value.category).sum ≤ cf_mL Y) (hst : (st.map Value.category).sum ≤ 8) (k : RP Y 0 (cf_args 0 [a1, a2, a3]) [] h (fun r h' => RP M pc' lv (cf_push r st) h' P)) : RP M pc lv (a3 :: a2 :: a1 :: st) h P := rp_callS (As := [a1, a2, a3]) hd hw rfl hfit hst k
theorem rp_callV4 {M Y : cf_M} {pc pc' idx o : Nat} {lv : List (Nat × Value)} {st : List Value} {a1 a2 a3 a4 : Value} {h : cf_H} {P : Option Value → cf_H → Prop} (hd : cf_D M pc (.invokevirtual idx) 3 pc') (hw : cf_qv M idx Y 4) (hrv : cf_rv o Y.1.cls) (hfit : (([.ref o, a1, a2, a3, a4] : List Value).map Value.category).sum ≤ cf_mL Y) (hst : (st.map Value.category).sum ≤ 8) (k : RP Y 0 (cf_args 0 [.ref o, a1, a2, a3, a4]) [] h (fun r h' => RP M pc' lv (cf_push r st) h' P)) : RP M pc lv (a4 :: a3 :: a2 :: a1 :: .ref o :: st) h P := rp_callV (As := [a1, a2, a3, a4]) hd hw hrv rfl hfit hst k
theorem rp_callS4 {M Y : cf_M} {pc pc' idx : Nat} {lv : List (Nat × Value)} {st : List Value} {a1 a2 a3 a4 : Value} {h : cf_H} {P : Option Value → cf_H → Prop} (hd : cf_D M pc (.invokestatic idx) 3 pc') (hw : cf_qs M idx Y 4) (hfit : (([a1, a2, a3, a4] : List Value).map Value.category).sum ≤ cf_mL Y) (hst : (st.map Value.category).sum ≤ 8) (k : RP Y 0 (cf_args 0 [a1, a2, a3, a4]) [] h (fun r h' => RP M pc' lv (cf_push r st) h' P)) : RP M pc lv (a4 :: a3 :: a2 :: a1 :: st) h P := rp_callS (As := [a1, a2, a3, a4]) hd hw rfl hfit hst k
theorem rp_callV5 {M Y : cf_M} {pc pc' idx o : Nat} {lv : List (Nat × Value)} {st : List Value} {a1 a2 a3 a4 a5 : Value} {h : cf_H} {P : Option Value → cf_H → Prop} (hd : cf_D M pc (.invokevirtual idx) 3 pc') (hw : cf_qv M idx Y 5) (hrv : cf_rv o Y.1.cls) (hfit : (([.ref o, a1, a2, a3, a4, a5] : List Value).map Value.category).sum ≤ cf_mL Y) (hst : (st.map Value.category).sum ≤ 8) (k : RP Y 0 (cf_args 0 [.ref o, a1, a2, a3, a4, a5]) [] h (fun r h' => RP M pc' lv (cf_push r st) h' P)) : RP M pc lv (a5 :: a4 :: a3 :: a2 :: a1 :: .ref o :: st) h P := rp_callV (As := [a1, a2, a3, a4, a5]) hd hw hrv rfl hfit hst k
theorem rp_callS5 {M Y : cf_M} {pc pc' idx : Nat} {lv : List (Nat × Value)} {st : List Value} {a1 a2 a3 a4 a5 : Value} {h : cf_H} {P : Option Value → cf_H → Prop} (hd : cf_D M pc (.invokestatic idx) 3 pc') (hw : cf_qs M idx Y 5) (hfit : (([a1, a2, a3, a4, a5] : List Value).map Value.category).sum ≤ cf_mL Y) (hst : (st.map Value.category).sum ≤ 8) (k : RP Y 0 (cf_args 0 [a1, a2, a3, a4, a5]) [] h (fun r h' => RP M pc' lv (cf_push r st) h' P)) : RP M pc lv (a5 :: a4 :: a3 :: a2 :: a1 :: st) h P := rp_callS (As := [a1, a2, a3, a4, a5]) hd hw rfl hfit hst k
end
