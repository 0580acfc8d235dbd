section
-- ===== PART A: goes FIRST, ahead of the names: the tables' words, and 'selects' of the private methods out of them =====
/-- a private method of a class that the tables say can be made, by its rows of tables_1 -/
def lw_okq (q : MethodName × Nat) : Prop := (q.1.cls ≠ "java/lang/invoke/MethodHandle" ∧ q.1.cls ≠ "java/lang/invoke/VarHandle") ∧ Cond.instantiable q.1.cls q.2 ∈ tables_1 ∧ Cond.privateMethod q.1 ∈ tables_1 ∧ Cond.instanceMethod q.1 ∈ tables_1
theorem lw_p0 : lw_okq (⟨"CellFormatter$Scanner", "scanToken", "(I)I"⟩, 3) := ⟨⟨by decide +kernel, by decide +kernel⟩, List.mem_of_getElem? (i := 48) (by decide +kernel), List.mem_of_getElem? (i := 299) (by decide +kernel), List.mem_of_getElem? (i := 300) (by decide +kernel)⟩
theorem lw_p1 : lw_okq (⟨"CellFormatter$Scanner", "at", "(I)C"⟩, 3) := ⟨⟨by decide +kernel, by decide +kernel⟩, List.mem_of_getElem? (i := 48) (by decide +kernel), List.mem_of_getElem? (i := 303) (by decide +kernel), List.mem_of_getElem? (i := 304) (by decide +kernel)⟩
theorem lw_p2 : lw_okq (⟨"CellFormatter$Scanner", "scanQuoted", "(I)I"⟩, 3) := ⟨⟨by decide +kernel, by decide +kernel⟩, List.mem_of_getElem? (i := 48) (by decide +kernel), List.mem_of_getElem? (i := 307) (by decide +kernel), List.mem_of_getElem? (i := 308) (by decide +kernel)⟩
theorem lw_p3 : lw_okq (⟨"CellFormatter$Scanner", "scanEscaped", "(I)I"⟩, 3) := ⟨⟨by decide +kernel, by decide +kernel⟩, List.mem_of_getElem? (i := 48) (by decide +kernel), List.mem_of_getElem? (i := 315) (by decide +kernel), List.mem_of_getElem? (i := 316) (by decide +kernel)⟩
theorem lw_p4 : lw_okq (⟨"CellFormatter$Scanner", "scanBracket", "(I)I"⟩, 3) := ⟨⟨by decide +kernel, by decide +kernel⟩, List.mem_of_getElem? (i := 48) (by decide +kernel), List.mem_of_getElem? (i := 319) (by decide +kernel), List.mem_of_getElem? (i := 320) (by decide +kernel)⟩
theorem lw_p5 : lw_okq (⟨"CellFormatter$Scanner", "scanCondition", "(I)I"⟩, 3) := ⟨⟨by decide +kernel, by decide +kernel⟩, List.mem_of_getElem? (i := 48) (by decide +kernel), List.mem_of_getElem? (i := 408) (by decide +kernel), List.mem_of_getElem? (i := 409) (by decide +kernel)⟩
theorem lw_p6 : lw_okq (⟨"CellFormatter$Scanner", "testAt", "(I)I"⟩, 3) := ⟨⟨by decide +kernel, by decide +kernel⟩, List.mem_of_getElem? (i := 48) (by decide +kernel), List.mem_of_getElem? (i := 412) (by decide +kernel), List.mem_of_getElem? (i := 413) (by decide +kernel)⟩
theorem lw_p7 : lw_okq (⟨"CellFormatter$Scanner", "isDigit", "(C)Z"⟩, 3) := ⟨⟨by decide +kernel, by decide +kernel⟩, List.mem_of_getElem? (i := 48) (by decide +kernel), List.mem_of_getElem? (i := 416) (by decide +kernel), List.mem_of_getElem? (i := 417) (by decide +kernel)⟩
theorem lw_p8 : lw_okq (⟨"CellFormatter$Scanner", "scanExponent", "(I)I"⟩, 3) := ⟨⟨by decide +kernel, by decide +kernel⟩, List.mem_of_getElem? (i := 48) (by decide +kernel), List.mem_of_getElem? (i := 420) (by decide +kernel), List.mem_of_getElem? (i := 421) (by decide +kernel)⟩
theorem lw_p9 : lw_okq (⟨"CellFormatter$Scanner", "scanMeridiem", "(I)I"⟩, 3) := ⟨⟨by decide +kernel, by decide +kernel⟩, List.mem_of_getElem? (i := 48) (by decide +kernel), List.mem_of_getElem? (i := 424) (by decide +kernel), List.mem_of_getElem? (i := 425) (by decide +kernel)⟩
theorem lw_p10 : lw_okq (⟨"CellFormatter$Scanner", "scanField", "(I)I"⟩, 3) := ⟨⟨by decide +kernel, by decide +kernel⟩, List.mem_of_getElem? (i := 48) (by decide +kernel), List.mem_of_getElem? (i := 451) (by decide +kernel), List.mem_of_getElem? (i := 452) (by decide +kernel)⟩
theorem lw_p11 : lw_okq (⟨"CellFormatter$Scanner", "isFieldLength", "(CI)Z"⟩, 3) := ⟨⟨by decide +kernel, by decide +kernel⟩, List.mem_of_getElem? (i := 48) (by decide +kernel), List.mem_of_getElem? (i := 455) (by decide +kernel), List.mem_of_getElem? (i := 456) (by decide +kernel)⟩
theorem lw_p12 : lw_okq (⟨"CellFormatter$Scanner", "scanSingle", "(C)I"⟩, 3) := ⟨⟨by decide +kernel, by decide +kernel⟩, List.mem_of_getElem? (i := 48) (by decide +kernel), List.mem_of_getElem? (i := 459) (by decide +kernel), List.mem_of_getElem? (i := 460) (by decide +kernel)⟩
theorem lw_p13 : lw_okq (⟨"CellFormatter", "readParts", "(I)I"⟩, 12) := ⟨⟨by decide +kernel, by decide +kernel⟩, List.mem_of_getElem? (i := 18) (by decide +kernel), List.mem_of_getElem? (i := 473) (by decide +kernel), List.mem_of_getElem? (i := 474) (by decide +kernel)⟩
theorem lw_p14 : lw_okq (⟨"CellFormatter$Section", "countFields", "(LCellFormatter$Tokens;)I"⟩, 15) := ⟨⟨by decide +kernel, by decide +kernel⟩, List.mem_of_getElem? (i := 65) (by decide +kernel), List.mem_of_getElem? (i := 486) (by decide +kernel), List.mem_of_getElem? (i := 487) (by decide +kernel)⟩
theorem lw_p15 : lw_okq (⟨"CellFormatter$Section", "readCondition", "(LCellFormatter$Tokens;)Z"⟩, 15) := ⟨⟨by decide +kernel, by decide +kernel⟩, List.mem_of_getElem? (i := 65) (by decide +kernel), List.mem_of_getElem? (i := 494) (by decide +kernel), List.mem_of_getElem? (i := 495) (by decide +kernel)⟩
def lw_privs_1 : List (MethodName × Nat) := [(⟨"CellFormatter$Scanner", "scanToken", "(I)I"⟩, 3), (⟨"CellFormatter$Scanner", "at", "(I)C"⟩, 3), (⟨"CellFormatter$Scanner", "scanQuoted", "(I)I"⟩, 3), (⟨"CellFormatter$Scanner", "scanEscaped", "(I)I"⟩, 3), (⟨"CellFormatter$Scanner", "scanBracket", "(I)I"⟩, 3), (⟨"CellFormatter$Scanner", "scanCondition", "(I)I"⟩, 3), (⟨"CellFormatter$Scanner", "testAt", "(I)I"⟩, 3), (⟨"CellFormatter$Scanner", "isDigit", "(C)Z"⟩, 3), (⟨"CellFormatter$Scanner", "scanExponent", "(I)I"⟩, 3), (⟨"CellFormatter$Scanner", "scanMeridiem", "(I)I"⟩, 3), (⟨"CellFormatter$Scanner", "scanField", "(I)I"⟩, 3), (⟨"CellFormatter$Scanner", "isFieldLength", "(CI)Z"⟩, 3), (⟨"CellFormatter$Scanner", "scanSingle", "(C)I"⟩, 3), (⟨"CellFormatter", "readParts", "(I)I"⟩, 12), (⟨"CellFormatter$Section", "countFields", "(LCellFormatter$Tokens;)I"⟩, 15), (⟨"CellFormatter$Section", "readCondition", "(LCellFormatter$Tokens;)Z"⟩, 15)]
theorem lw_r1 : ∀ q ∈ lw_privs_1, lw_okq q := List.forall_mem_cons.mpr ⟨lw_p0, List.forall_mem_cons.mpr ⟨lw_p1, List.forall_mem_cons.mpr ⟨lw_p2, List.forall_mem_cons.mpr ⟨lw_p3, List.forall_mem_cons.mpr ⟨lw_p4, List.forall_mem_cons.mpr ⟨lw_p5, List.forall_mem_cons.mpr ⟨lw_p6, List.forall_mem_cons.mpr ⟨lw_p7, List.forall_mem_cons.mpr ⟨lw_p8, List.forall_mem_cons.mpr ⟨lw_p9, List.forall_mem_cons.mpr ⟨lw_p10, List.forall_mem_cons.mpr ⟨lw_p11, List.forall_mem_cons.mpr ⟨lw_p12, List.forall_mem_cons.mpr ⟨lw_p13, List.forall_mem_cons.mpr ⟨lw_p14, List.forall_mem_cons.mpr ⟨lw_p15, fun _ h => absurd h List.not_mem_nil⟩⟩⟩⟩⟩⟩⟩⟩⟩⟩⟩⟩⟩⟩⟩⟩
theorem lw_p16 : lw_okq (⟨"CellFormatter$Section", "readNumber", "(LCellFormatter$Tokens;)Z"⟩, 15) := ⟨⟨by decide +kernel, by decide +kernel⟩, List.mem_of_getElem? (i := 65) (by decide +kernel), List.mem_of_getElem? (i := 508) (by decide +kernel), List.mem_of_getElem? (i := 509) (by decide +kernel)⟩
theorem lw_p17 : lw_okq (⟨"CellFormatter$Section", "readCommas", "(LCellFormatter$Tokens;)Z"⟩, 15) := ⟨⟨by decide +kernel, by decide +kernel⟩, List.mem_of_getElem? (i := 65) (by decide +kernel), List.mem_of_getElem? (i := 517) (by decide +kernel), List.mem_of_getElem? (i := 518) (by decide +kernel)⟩
theorem lw_p18 : lw_okq (⟨"CellFormatter$Section", "readFields", "(LCellFormatter$Tokens;)V"⟩, 15) := ⟨⟨by decide +kernel, by decide +kernel⟩, List.mem_of_getElem? (i := 65) (by decide +kernel), List.mem_of_getElem? (i := 525) (by decide +kernel), List.mem_of_getElem? (i := 526) (by decide +kernel)⟩
theorem lw_p19 : lw_okq (⟨"CellFormatter$Section", "letterBefore", "(LCellFormatter$Tokens;I)I"⟩, 15) := ⟨⟨by decide +kernel, by decide +kernel⟩, List.mem_of_getElem? (i := 65) (by decide +kernel), List.mem_of_getElem? (i := 529) (by decide +kernel), List.mem_of_getElem? (i := 530) (by decide +kernel)⟩
theorem lw_p20 : lw_okq (⟨"CellFormatter$Section", "letterBehind", "(LCellFormatter$Tokens;I)I"⟩, 15) := ⟨⟨by decide +kernel, by decide +kernel⟩, List.mem_of_getElem? (i := 65) (by decide +kernel), List.mem_of_getElem? (i := 533) (by decide +kernel), List.mem_of_getElem? (i := 534) (by decide +kernel)⟩
theorem lw_p21 : lw_okq (⟨"CellFormatter$Section", "hasNumberMarks", "(LCellFormatter$Tokens;)Z"⟩, 15) := ⟨⟨by decide +kernel, by decide +kernel⟩, List.mem_of_getElem? (i := 65) (by decide +kernel), List.mem_of_getElem? (i := 541) (by decide +kernel), List.mem_of_getElem? (i := 542) (by decide +kernel)⟩
theorem lw_p22 : lw_okq (⟨"CellFormatter", "choosePart", "(J)I"⟩, 12) := ⟨⟨by decide +kernel, by decide +kernel⟩, List.mem_of_getElem? (i := 18) (by decide +kernel), List.mem_of_getElem? (i := 572) (by decide +kernel), List.mem_of_getElem? (i := 573) (by decide +kernel)⟩
theorem lw_p23 : lw_okq (⟨"CellFormatter", "chooseByCondition", "(J)I"⟩, 12) := ⟨⟨by decide +kernel, by decide +kernel⟩, List.mem_of_getElem? (i := 18) (by decide +kernel), List.mem_of_getElem? (i := 576) (by decide +kernel), List.mem_of_getElem? (i := 577) (by decide +kernel)⟩
theorem lw_p24 : lw_okq (⟨"CellFormatter", "writeBy", "(IJ)Z"⟩, 12) := ⟨⟨by decide +kernel, by decide +kernel⟩, List.mem_of_getElem? (i := 18) (by decide +kernel), List.mem_of_getElem? (i := 585) (by decide +kernel), List.mem_of_getElem? (i := 586) (by decide +kernel)⟩
theorem lw_p25 : lw_okq (⟨"CellFormatter$MomentWriter", "roundToSeconds", "(J)V"⟩, 4) := ⟨⟨by decide +kernel, by decide +kernel⟩, List.mem_of_getElem? (i := 220) (by decide +kernel), List.mem_of_getElem? (i := 593) (by decide +kernel), List.mem_of_getElem? (i := 594) (by decide +kernel)⟩
theorem lw_p26 : lw_okq (⟨"CellFormatter$Calendar", "setDate", "(I)V"⟩, 5) := ⟨⟨by decide +kernel, by decide +kernel⟩, List.mem_of_getElem? (i := 134) (by decide +kernel), List.mem_of_getElem? (i := 615) (by decide +kernel), List.mem_of_getElem? (i := 616) (by decide +kernel)⟩
theorem lw_p27 : lw_okq (⟨"CellFormatter$MomentWriter", "writeToken", "(LCellFormatter$Tokens;IZ)V"⟩, 4) := ⟨⟨by decide +kernel, by decide +kernel⟩, List.mem_of_getElem? (i := 220) (by decide +kernel), List.mem_of_getElem? (i := 630) (by decide +kernel), List.mem_of_getElem? (i := 631) (by decide +kernel)⟩
theorem lw_p28 : lw_okq (⟨"CellFormatter$MomentWriter", "writeElapsed", "(I)V"⟩, 4) := ⟨⟨by decide +kernel, by decide +kernel⟩, List.mem_of_getElem? (i := 220) (by decide +kernel), List.mem_of_getElem? (i := 640) (by decide +kernel), List.mem_of_getElem? (i := 641) (by decide +kernel)⟩
theorem lw_p29 : lw_okq (⟨"CellFormatter$MomentWriter", "hour", "()I"⟩, 4) := ⟨⟨by decide +kernel, by decide +kernel⟩, List.mem_of_getElem? (i := 220) (by decide +kernel), List.mem_of_getElem? (i := 661) (by decide +kernel), List.mem_of_getElem? (i := 662) (by decide +kernel)⟩
theorem lw_p30 : lw_okq (⟨"CellFormatter$MomentWriter", "writeField", "(IIZ)V"⟩, 4) := ⟨⟨by decide +kernel, by decide +kernel⟩, List.mem_of_getElem? (i := 220) (by decide +kernel), List.mem_of_getElem? (i := 666) (by decide +kernel), List.mem_of_getElem? (i := 667) (by decide +kernel)⟩
theorem lw_p31 : lw_okq (⟨"CellFormatter$MomentWriter", "numberOf", "(IIZ)I"⟩, 4) := ⟨⟨by decide +kernel, by decide +kernel⟩, List.mem_of_getElem? (i := 220) (by decide +kernel), List.mem_of_getElem? (i := 670) (by decide +kernel), List.mem_of_getElem? (i := 671) (by decide +kernel)⟩
def lw_privs_2 : List (MethodName × Nat) := [(⟨"CellFormatter$Section", "readNumber", "(LCellFormatter$Tokens;)Z"⟩, 15), (⟨"CellFormatter$Section", "readCommas", "(LCellFormatter$Tokens;)Z"⟩, 15), (⟨"CellFormatter$Section", "readFields", "(LCellFormatter$Tokens;)V"⟩, 15), (⟨"CellFormatter$Section", "letterBefore", "(LCellFormatter$Tokens;I)I"⟩, 15), (⟨"CellFormatter$Section", "letterBehind", "(LCellFormatter$Tokens;I)I"⟩, 15), (⟨"CellFormatter$Section", "hasNumberMarks", "(LCellFormatter$Tokens;)Z"⟩, 15), (⟨"CellFormatter", "choosePart", "(J)I"⟩, 12), (⟨"CellFormatter", "chooseByCondition", "(J)I"⟩, 12), (⟨"CellFormatter", "writeBy", "(IJ)Z"⟩, 12), (⟨"CellFormatter$MomentWriter", "roundToSeconds", "(J)V"⟩, 4), (⟨"CellFormatter$Calendar", "setDate", "(I)V"⟩, 5), (⟨"CellFormatter$MomentWriter", "writeToken", "(LCellFormatter$Tokens;IZ)V"⟩, 4), (⟨"CellFormatter$MomentWriter", "writeElapsed", "(I)V"⟩, 4), (⟨"CellFormatter$MomentWriter", "hour", "()I"⟩, 4), (⟨"CellFormatter$MomentWriter", "writeField", "(IIZ)V"⟩, 4), (⟨"CellFormatter$MomentWriter", "numberOf", "(IIZ)I"⟩, 4)]
theorem lw_r2 : ∀ q ∈ lw_privs_2, lw_okq q := List.forall_mem_cons.mpr ⟨lw_p16, List.forall_mem_cons.mpr ⟨lw_p17, List.forall_mem_cons.mpr ⟨lw_p18, List.forall_mem_cons.mpr ⟨lw_p19, List.forall_mem_cons.mpr ⟨lw_p20, List.forall_mem_cons.mpr ⟨lw_p21, List.forall_mem_cons.mpr ⟨lw_p22, List.forall_mem_cons.mpr ⟨lw_p23, List.forall_mem_cons.mpr ⟨lw_p24, List.forall_mem_cons.mpr ⟨lw_p25, List.forall_mem_cons.mpr ⟨lw_p26, List.forall_mem_cons.mpr ⟨lw_p27, List.forall_mem_cons.mpr ⟨lw_p28, List.forall_mem_cons.mpr ⟨lw_p29, List.forall_mem_cons.mpr ⟨lw_p30, List.forall_mem_cons.mpr ⟨lw_p31, fun _ h => absurd h List.not_mem_nil⟩⟩⟩⟩⟩⟩⟩⟩⟩⟩⟩⟩⟩⟩⟩⟩
theorem lw_p32 : lw_okq (⟨"CellFormatter$MomentWriter", "writeName", "(Ljava/lang/String;I)V"⟩, 4) := ⟨⟨by decide +kernel, by decide +kernel⟩, List.mem_of_getElem? (i := 220) (by decide +kernel), List.mem_of_getElem? (i := 675) (by decide +kernel), List.mem_of_getElem? (i := 676) (by decide +kernel)⟩
theorem lw_p33 : lw_okq (⟨"CellFormatter$NumberWriter", "prepare", "(LCellFormatter$Section;J)V"⟩, 7) := ⟨⟨by decide +kernel, by decide +kernel⟩, List.mem_of_getElem? (i := 179) (by decide +kernel), List.mem_of_getElem? (i := 689) (by decide +kernel), List.mem_of_getElem? (i := 690) (by decide +kernel)⟩
theorem lw_p34 : lw_okq (⟨"CellFormatter$NumberWriter", "writePlace", "(LCellFormatter$Section;II)V"⟩, 7) := ⟨⟨by decide +kernel, by decide +kernel⟩, List.mem_of_getElem? (i := 179) (by decide +kernel), List.mem_of_getElem? (i := 729) (by decide +kernel), List.mem_of_getElem? (i := 730) (by decide +kernel)⟩
theorem lw_p35 : lw_okq (⟨"CellFormatter$NumberWriter", "writeIntegerPlace", "(LCellFormatter$Decimal;IIZZ)V"⟩, 7) := ⟨⟨by decide +kernel, by decide +kernel⟩, List.mem_of_getElem? (i := 179) (by decide +kernel), List.mem_of_getElem? (i := 733) (by decide +kernel), List.mem_of_getElem? (i := 734) (by decide +kernel)⟩
theorem lw_p36 : lw_okq (⟨"CellFormatter$NumberWriter", "writeDigit", "(LCellFormatter$Decimal;IZ)V"⟩, 7) := ⟨⟨by decide +kernel, by decide +kernel⟩, List.mem_of_getElem? (i := 179) (by decide +kernel), List.mem_of_getElem? (i := 738) (by decide +kernel), List.mem_of_getElem? (i := 739) (by decide +kernel)⟩
theorem lw_p37 : lw_okq (⟨"CellFormatter$NumberWriter", "writeFractionPlace", "(II)V"⟩, 7) := ⟨⟨by decide +kernel, by decide +kernel⟩, List.mem_of_getElem? (i := 179) (by decide +kernel), List.mem_of_getElem? (i := 747) (by decide +kernel), List.mem_of_getElem? (i := 748) (by decide +kernel)⟩
theorem lw_p38 : lw_okq (⟨"CellFormatter$NumberWriter", "onlyZerosFrom", "(II)Z"⟩, 7) := ⟨⟨by decide +kernel, by decide +kernel⟩, List.mem_of_getElem? (i := 179) (by decide +kernel), List.mem_of_getElem? (i := 751) (by decide +kernel), List.mem_of_getElem? (i := 752) (by decide +kernel)⟩
theorem lw_p39 : lw_okq (⟨"CellFormatter$NumberWriter", "writeExponentMark", "(I)V"⟩, 7) := ⟨⟨by decide +kernel, by decide +kernel⟩, List.mem_of_getElem? (i := 179) (by decide +kernel), List.mem_of_getElem? (i := 755) (by decide +kernel), List.mem_of_getElem? (i := 756) (by decide +kernel)⟩
theorem lw_p40 : lw_okq (⟨"CellFormatter", "writePlain", "(LCellFormatter$Section;Z)V"⟩, 12) := ⟨⟨by decide +kernel, by decide +kernel⟩, List.mem_of_getElem? (i := 18) (by decide +kernel), List.mem_of_getElem? (i := 759) (by decide +kernel), List.mem_of_getElem? (i := 760) (by decide +kernel)⟩
theorem lw_p41 : lw_okq (⟨"CellFormatterModel", "token", "(I)V"⟩, 21) := ⟨⟨by decide +kernel, by decide +kernel⟩, List.mem_of_getElem? (i := 791) (by decide +kernel), List.mem_of_getElem? (i := 873) (by decide +kernel), List.mem_of_getElem? (i := 874) (by decide +kernel)⟩
theorem lw_p42 : lw_okq (⟨"CellFormatterModel", "at", "(I)I"⟩, 21) := ⟨⟨by decide +kernel, by decide +kernel⟩, List.mem_of_getElem? (i := 791) (by decide +kernel), List.mem_of_getElem? (i := 877) (by decide +kernel), List.mem_of_getElem? (i := 878) (by decide +kernel)⟩
theorem lw_p43 : lw_okq (⟨"CellFormatterModel", "quoted", "(I)V"⟩, 21) := ⟨⟨by decide +kernel, by decide +kernel⟩, List.mem_of_getElem? (i := 791) (by decide +kernel), List.mem_of_getElem? (i := 881) (by decide +kernel), List.mem_of_getElem? (i := 882) (by decide +kernel)⟩
theorem lw_p44 : lw_okq (⟨"CellFormatterModel", "meet", "(IIII)V"⟩, 21) := ⟨⟨by decide +kernel, by decide +kernel⟩, List.mem_of_getElem? (i := 791) (by decide +kernel), List.mem_of_getElem? (i := 885) (by decide +kernel), List.mem_of_getElem? (i := 886) (by decide +kernel)⟩
theorem lw_p45 : lw_okq (⟨"CellFormatterModel", "bracket", "(I)V"⟩, 21) := ⟨⟨by decide +kernel, by decide +kernel⟩, List.mem_of_getElem? (i := 791) (by decide +kernel), List.mem_of_getElem? (i := 892) (by decide +kernel), List.mem_of_getElem? (i := 893) (by decide +kernel)⟩
theorem lw_p46 : lw_okq (⟨"CellFormatterModel", "comparison", "(I)I"⟩, 21) := ⟨⟨by decide +kernel, by decide +kernel⟩, List.mem_of_getElem? (i := 791) (by decide +kernel), List.mem_of_getElem? (i := 896) (by decide +kernel), List.mem_of_getElem? (i := 897) (by decide +kernel)⟩
theorem lw_p47 : lw_okq (⟨"CellFormatterModel", "letters", "(I)V"⟩, 21) := ⟨⟨by decide +kernel, by decide +kernel⟩, List.mem_of_getElem? (i := 791) (by decide +kernel), List.mem_of_getElem? (i := 903) (by decide +kernel), List.mem_of_getElem? (i := 904) (by decide +kernel)⟩
def lw_privs_3 : List (MethodName × Nat) := [(⟨"CellFormatter$MomentWriter", "writeName", "(Ljava/lang/String;I)V"⟩, 4), (⟨"CellFormatter$NumberWriter", "prepare", "(LCellFormatter$Section;J)V"⟩, 7), (⟨"CellFormatter$NumberWriter", "writePlace", "(LCellFormatter$Section;II)V"⟩, 7), (⟨"CellFormatter$NumberWriter", "writeIntegerPlace", "(LCellFormatter$Decimal;IIZZ)V"⟩, 7), (⟨"CellFormatter$NumberWriter", "writeDigit", "(LCellFormatter$Decimal;IZ)V"⟩, 7), (⟨"CellFormatter$NumberWriter", "writeFractionPlace", "(II)V"⟩, 7), (⟨"CellFormatter$NumberWriter", "onlyZerosFrom", "(II)Z"⟩, 7), (⟨"CellFormatter$NumberWriter", "writeExponentMark", "(I)V"⟩, 7), (⟨"CellFormatter", "writePlain", "(LCellFormatter$Section;Z)V"⟩, 12), (⟨"CellFormatterModel", "token", "(I)V"⟩, 21), (⟨"CellFormatterModel", "at", "(I)I"⟩, 21), (⟨"CellFormatterModel", "quoted", "(I)V"⟩, 21), (⟨"CellFormatterModel", "meet", "(IIII)V"⟩, 21), (⟨"CellFormatterModel", "bracket", "(I)V"⟩, 21), (⟨"CellFormatterModel", "comparison", "(I)I"⟩, 21), (⟨"CellFormatterModel", "letters", "(I)V"⟩, 21)]
theorem lw_r3 : ∀ q ∈ lw_privs_3, lw_okq q := List.forall_mem_cons.mpr ⟨lw_p32, List.forall_mem_cons.mpr ⟨lw_p33, List.forall_mem_cons.mpr ⟨lw_p34, List.forall_mem_cons.mpr ⟨lw_p35, List.forall_mem_cons.mpr ⟨lw_p36, List.forall_mem_cons.mpr ⟨lw_p37, List.forall_mem_cons.mpr ⟨lw_p38, List.forall_mem_cons.mpr ⟨lw_p39, List.forall_mem_cons.mpr ⟨lw_p40, List.forall_mem_cons.mpr ⟨lw_p41, List.forall_mem_cons.mpr ⟨lw_p42, List.forall_mem_cons.mpr ⟨lw_p43, List.forall_mem_cons.mpr ⟨lw_p44, List.forall_mem_cons.mpr ⟨lw_p45, List.forall_mem_cons.mpr ⟨lw_p46, List.forall_mem_cons.mpr ⟨lw_p47, fun _ h => absurd h List.not_mem_nil⟩⟩⟩⟩⟩⟩⟩⟩⟩⟩⟩⟩⟩⟩⟩⟩
theorem lw_p48 : lw_okq (⟨"CellFormatterModel", "wellMade", "(I)Z"⟩, 21) := ⟨⟨by decide +kernel, by decide +kernel⟩, List.mem_of_getElem? (i := 791) (by decide +kernel), List.mem_of_getElem? (i := 907) (by decide +kernel), List.mem_of_getElem? (i := 908) (by decide +kernel)⟩
theorem lw_p49 : lw_okq (⟨"CellFormatterModel", "count", "(III)I"⟩, 21) := ⟨⟨by decide +kernel, by decide +kernel⟩, List.mem_of_getElem? (i := 791) (by decide +kernel), List.mem_of_getElem? (i := 911) (by decide +kernel), List.mem_of_getElem? (i := 912) (by decide +kernel)⟩
theorem lw_p50 : lw_okq (⟨"CellFormatterModel", "kindOf", "(I)I"⟩, 21) := ⟨⟨by decide +kernel, by decide +kernel⟩, List.mem_of_getElem? (i := 791) (by decide +kernel), List.mem_of_getElem? (i := 915) (by decide +kernel), List.mem_of_getElem? (i := 916) (by decide +kernel)⟩
theorem lw_p51 : lw_okq (⟨"CellFormatterModel", "find", "(II)I"⟩, 21) := ⟨⟨by decide +kernel, by decide +kernel⟩, List.mem_of_getElem? (i := 791) (by decide +kernel), List.mem_of_getElem? (i := 919) (by decide +kernel), List.mem_of_getElem? (i := 920) (by decide +kernel)⟩
theorem lw_p52 : lw_okq (⟨"CellFormatterModel", "integerEnd", "(I)I"⟩, 21) := ⟨⟨by decide +kernel, by decide +kernel⟩, List.mem_of_getElem? (i := 791) (by decide +kernel), List.mem_of_getElem? (i := 923) (by decide +kernel), List.mem_of_getElem? (i := 924) (by decide +kernel)⟩
theorem lw_p53 : lw_okq (⟨"CellFormatterModel", "groups", "(II)Z"⟩, 21) := ⟨⟨by decide +kernel, by decide +kernel⟩, List.mem_of_getElem? (i := 791) (by decide +kernel), List.mem_of_getElem? (i := 927) (by decide +kernel), List.mem_of_getElem? (i := 928) (by decide +kernel)⟩
theorem lw_p54 : lw_okq (⟨"CellFormatterModel", "scales", "(II)Z"⟩, 21) := ⟨⟨by decide +kernel, by decide +kernel⟩, List.mem_of_getElem? (i := 791) (by decide +kernel), List.mem_of_getElem? (i := 931) (by decide +kernel), List.mem_of_getElem? (i := 932) (by decide +kernel)⟩
theorem lw_p55 : lw_okq (⟨"CellFormatterModel", "firstSerial", "()I"⟩, 21) := ⟨⟨by decide +kernel, by decide +kernel⟩, List.mem_of_getElem? (i := 791) (by decide +kernel), List.mem_of_getElem? (i := 951) (by decide +kernel), List.mem_of_getElem? (i := 952) (by decide +kernel)⟩
theorem lw_p56 : lw_okq (⟨"CellFormatterModel", "lastSerial", "()I"⟩, 21) := ⟨⟨by decide +kernel, by decide +kernel⟩, List.mem_of_getElem? (i := 791) (by decide +kernel), List.mem_of_getElem? (i := 955) (by decide +kernel), List.mem_of_getElem? (i := 956) (by decide +kernel)⟩
theorem lw_p57 : lw_okq (⟨"CellFormatterModel", "firstYear", "()I"⟩, 21) := ⟨⟨by decide +kernel, by decide +kernel⟩, List.mem_of_getElem? (i := 791) (by decide +kernel), List.mem_of_getElem? (i := 959) (by decide +kernel), List.mem_of_getElem? (i := 960) (by decide +kernel)⟩
theorem lw_p58 : lw_okq (⟨"CellFormatterModel", "daysOfYear", "(I)I"⟩, 21) := ⟨⟨by decide +kernel, by decide +kernel⟩, List.mem_of_getElem? (i := 791) (by decide +kernel), List.mem_of_getElem? (i := 963) (by decide +kernel), List.mem_of_getElem? (i := 964) (by decide +kernel)⟩
theorem lw_p59 : lw_okq (⟨"CellFormatterModel", "daysOf", "(II)I"⟩, 21) := ⟨⟨by decide +kernel, by decide +kernel⟩, List.mem_of_getElem? (i := 791) (by decide +kernel), List.mem_of_getElem? (i := 967) (by decide +kernel), List.mem_of_getElem? (i := 968) (by decide +kernel)⟩
theorem lw_p60 : lw_okq (⟨"CellFormatterModel", "sectionFor", "(J)I"⟩, 21) := ⟨⟨by decide +kernel, by decide +kernel⟩, List.mem_of_getElem? (i := 791) (by decide +kernel), List.mem_of_getElem? (i := 984) (by decide +kernel), List.mem_of_getElem? (i := 985) (by decide +kernel)⟩
theorem lw_p61 : lw_okq (⟨"CellFormatterModel", "anyCondition", "()Z"⟩, 21) := ⟨⟨by decide +kernel, by decide +kernel⟩, List.mem_of_getElem? (i := 791) (by decide +kernel), List.mem_of_getElem? (i := 988) (by decide +kernel), List.mem_of_getElem? (i := 989) (by decide +kernel)⟩
theorem lw_p62 : lw_okq (⟨"CellFormatterModel", "conditional", "(I)Z"⟩, 21) := ⟨⟨by decide +kernel, by decide +kernel⟩, List.mem_of_getElem? (i := 791) (by decide +kernel), List.mem_of_getElem? (i := 992) (by decide +kernel), List.mem_of_getElem? (i := 993) (by decide +kernel)⟩
theorem lw_p63 : lw_okq (⟨"CellFormatterModel", "holds", "(IJ)Z"⟩, 21) := ⟨⟨by decide +kernel, by decide +kernel⟩, List.mem_of_getElem? (i := 791) (by decide +kernel), List.mem_of_getElem? (i := 996) (by decide +kernel), List.mem_of_getElem? (i := 997) (by decide +kernel)⟩
def lw_privs_4 : List (MethodName × Nat) := [(⟨"CellFormatterModel", "wellMade", "(I)Z"⟩, 21), (⟨"CellFormatterModel", "count", "(III)I"⟩, 21), (⟨"CellFormatterModel", "kindOf", "(I)I"⟩, 21), (⟨"CellFormatterModel", "find", "(II)I"⟩, 21), (⟨"CellFormatterModel", "integerEnd", "(I)I"⟩, 21), (⟨"CellFormatterModel", "groups", "(II)Z"⟩, 21), (⟨"CellFormatterModel", "scales", "(II)Z"⟩, 21), (⟨"CellFormatterModel", "firstSerial", "()I"⟩, 21), (⟨"CellFormatterModel", "lastSerial", "()I"⟩, 21), (⟨"CellFormatterModel", "firstYear", "()I"⟩, 21), (⟨"CellFormatterModel", "daysOfYear", "(I)I"⟩, 21), (⟨"CellFormatterModel", "daysOf", "(II)I"⟩, 21), (⟨"CellFormatterModel", "sectionFor", "(J)I"⟩, 21), (⟨"CellFormatterModel", "anyCondition", "()Z"⟩, 21), (⟨"CellFormatterModel", "conditional", "(I)Z"⟩, 21), (⟨"CellFormatterModel", "holds", "(IJ)Z"⟩, 21)]
theorem lw_r4 : ∀ q ∈ lw_privs_4, lw_okq q := List.forall_mem_cons.mpr ⟨lw_p48, List.forall_mem_cons.mpr ⟨lw_p49, List.forall_mem_cons.mpr ⟨lw_p50, List.forall_mem_cons.mpr ⟨lw_p51, List.forall_mem_cons.mpr ⟨lw_p52, List.forall_mem_cons.mpr ⟨lw_p53, List.forall_mem_cons.mpr ⟨lw_p54, List.forall_mem_cons.mpr ⟨lw_p55, List.forall_mem_cons.mpr ⟨lw_p56, List.forall_mem_cons.mpr ⟨lw_p57, List.forall_mem_cons.mpr ⟨lw_p58, List.forall_mem_cons.mpr ⟨lw_p59, List.forall_mem_cons.mpr ⟨lw_p60, List.forall_mem_cons.mpr ⟨lw_p61, List.forall_mem_cons.mpr ⟨lw_p62, List.forall_mem_cons.mpr ⟨lw_p63, fun _ h => absurd h List.not_mem_nil⟩⟩⟩⟩⟩⟩⟩⟩⟩⟩⟩⟩⟩⟩⟩⟩
theorem lw_p64 : lw_okq (⟨"CellFormatterModel", "moment", "(IJ)Z"⟩, 21) := ⟨⟨by decide +kernel, by decide +kernel⟩, List.mem_of_getElem? (i := 791) (by decide +kernel), List.mem_of_getElem? (i := 1001) (by decide +kernel), List.mem_of_getElem? (i := 1002) (by decide +kernel)⟩
theorem lw_p65 : lw_okq (⟨"CellFormatterModel", "daily", "(II)Z"⟩, 21) := ⟨⟨by decide +kernel, by decide +kernel⟩, List.mem_of_getElem? (i := 791) (by decide +kernel), List.mem_of_getElem? (i := 1008) (by decide +kernel), List.mem_of_getElem? (i := 1009) (by decide +kernel)⟩
theorem lw_p66 : lw_okq (⟨"CellFormatterModel", "minute", "(II)Z"⟩, 21) := ⟨⟨by decide +kernel, by decide +kernel⟩, List.mem_of_getElem? (i := 791) (by decide +kernel), List.mem_of_getElem? (i := 1012) (by decide +kernel), List.mem_of_getElem? (i := 1013) (by decide +kernel)⟩
theorem lw_p67 : lw_okq (⟨"CellFormatterModel", "field", "(I)Z"⟩, 21) := ⟨⟨by decide +kernel, by decide +kernel⟩, List.mem_of_getElem? (i := 791) (by decide +kernel), List.mem_of_getElem? (i := 1016) (by decide +kernel), List.mem_of_getElem? (i := 1017) (by decide +kernel)⟩
theorem lw_p68 : lw_okq (⟨"CellFormatterModel", "putLiteral", "(I)V"⟩, 21) := ⟨⟨by decide +kernel, by decide +kernel⟩, List.mem_of_getElem? (i := 791) (by decide +kernel), List.mem_of_getElem? (i := 1020) (by decide +kernel), List.mem_of_getElem? (i := 1021) (by decide +kernel)⟩
theorem lw_p69 : lw_okq (⟨"CellFormatterModel", "put", "(I)V"⟩, 21) := ⟨⟨by decide +kernel, by decide +kernel⟩, List.mem_of_getElem? (i := 791) (by decide +kernel), List.mem_of_getElem? (i := 1024) (by decide +kernel), List.mem_of_getElem? (i := 1025) (by decide +kernel)⟩
theorem lw_p70 : lw_okq (⟨"CellFormatterModel", "dailyField", "(II)V"⟩, 21) := ⟨⟨by decide +kernel, by decide +kernel⟩, List.mem_of_getElem? (i := 791) (by decide +kernel), List.mem_of_getElem? (i := 1028) (by decide +kernel), List.mem_of_getElem? (i := 1029) (by decide +kernel)⟩
theorem lw_p71 : lw_okq (⟨"CellFormatterModel", "putNumber", "(JI)V"⟩, 21) := ⟨⟨by decide +kernel, by decide +kernel⟩, List.mem_of_getElem? (i := 791) (by decide +kernel), List.mem_of_getElem? (i := 1033) (by decide +kernel), List.mem_of_getElem? (i := 1034) (by decide +kernel)⟩
theorem lw_p72 : lw_okq (⟨"CellFormatterModel", "month", "(I)V"⟩, 21) := ⟨⟨by decide +kernel, by decide +kernel⟩, List.mem_of_getElem? (i := 791) (by decide +kernel), List.mem_of_getElem? (i := 1039) (by decide +kernel), List.mem_of_getElem? (i := 1040) (by decide +kernel)⟩
theorem lw_p73 : lw_okq (⟨"CellFormatterModel", "weekday", "(I)V"⟩, 21) := ⟨⟨by decide +kernel, by decide +kernel⟩, List.mem_of_getElem? (i := 791) (by decide +kernel), List.mem_of_getElem? (i := 1043) (by decide +kernel), List.mem_of_getElem? (i := 1044) (by decide +kernel)⟩
theorem lw_p74 : lw_okq (⟨"CellFormatterModel", "timeField", "(IIJI)V"⟩, 21) := ⟨⟨by decide +kernel, by decide +kernel⟩, List.mem_of_getElem? (i := 791) (by decide +kernel), List.mem_of_getElem? (i := 1047) (by decide +kernel), List.mem_of_getElem? (i := 1048) (by decide +kernel)⟩
theorem lw_p75 : lw_okq (⟨"CellFormatterModel", "plain", "(I)V"⟩, 21) := ⟨⟨by decide +kernel, by decide +kernel⟩, List.mem_of_getElem? (i := 791) (by decide +kernel), List.mem_of_getElem? (i := 1053) (by decide +kernel), List.mem_of_getElem? (i := 1054) (by decide +kernel)⟩
theorem lw_p76 : lw_okq (⟨"CellFormatterModel", "reckon", "(IJ)V"⟩, 21) := ⟨⟨by decide +kernel, by decide +kernel⟩, List.mem_of_getElem? (i := 791) (by decide +kernel), List.mem_of_getElem? (i := 1057) (by decide +kernel), List.mem_of_getElem? (i := 1058) (by decide +kernel)⟩
theorem lw_p77 : lw_okq (⟨"CellFormatterModel", "round", "(JII)V"⟩, 21) := ⟨⟨by decide +kernel, by decide +kernel⟩, List.mem_of_getElem? (i := 791) (by decide +kernel), List.mem_of_getElem? (i := 1061) (by decide +kernel), List.mem_of_getElem? (i := 1062) (by decide +kernel)⟩
theorem lw_p78 : lw_okq (⟨"CellFormatterModel", "top", "()I"⟩, 21) := ⟨⟨by decide +kernel, by decide +kernel⟩, List.mem_of_getElem? (i := 791) (by decide +kernel), List.mem_of_getElem? (i := 1069) (by decide +kernel), List.mem_of_getElem? (i := 1070) (by decide +kernel)⟩
theorem lw_p79 : lw_okq (⟨"CellFormatterModel", "number", "(I)V"⟩, 21) := ⟨⟨by decide +kernel, by decide +kernel⟩, List.mem_of_getElem? (i := 791) (by decide +kernel), List.mem_of_getElem? (i := 1073) (by decide +kernel), List.mem_of_getElem? (i := 1074) (by decide +kernel)⟩
def lw_privs_5 : List (MethodName × Nat) := [(⟨"CellFormatterModel", "moment", "(IJ)Z"⟩, 21), (⟨"CellFormatterModel", "daily", "(II)Z"⟩, 21), (⟨"CellFormatterModel", "minute", "(II)Z"⟩, 21), (⟨"CellFormatterModel", "field", "(I)Z"⟩, 21), (⟨"CellFormatterModel", "putLiteral", "(I)V"⟩, 21), (⟨"CellFormatterModel", "put", "(I)V"⟩, 21), (⟨"CellFormatterModel", "dailyField", "(II)V"⟩, 21), (⟨"CellFormatterModel", "putNumber", "(JI)V"⟩, 21), (⟨"CellFormatterModel", "month", "(I)V"⟩, 21), (⟨"CellFormatterModel", "weekday", "(I)V"⟩, 21), (⟨"CellFormatterModel", "timeField", "(IIJI)V"⟩, 21), (⟨"CellFormatterModel", "plain", "(I)V"⟩, 21), (⟨"CellFormatterModel", "reckon", "(IJ)V"⟩, 21), (⟨"CellFormatterModel", "round", "(JII)V"⟩, 21), (⟨"CellFormatterModel", "top", "()I"⟩, 21), (⟨"CellFormatterModel", "number", "(I)V"⟩, 21)]
theorem lw_r5 : ∀ q ∈ lw_privs_5, lw_okq q := List.forall_mem_cons.mpr ⟨lw_p64, List.forall_mem_cons.mpr ⟨lw_p65, List.forall_mem_cons.mpr ⟨lw_p66, List.forall_mem_cons.mpr ⟨lw_p67, List.forall_mem_cons.mpr ⟨lw_p68, List.forall_mem_cons.mpr ⟨lw_p69, List.forall_mem_cons.mpr ⟨lw_p70, List.forall_mem_cons.mpr ⟨lw_p71, List.forall_mem_cons.mpr ⟨lw_p72, List.forall_mem_cons.mpr ⟨lw_p73, List.forall_mem_cons.mpr ⟨lw_p74, List.forall_mem_cons.mpr ⟨lw_p75, List.forall_mem_cons.mpr ⟨lw_p76, List.forall_mem_cons.mpr ⟨lw_p77, List.forall_mem_cons.mpr ⟨lw_p78, List.forall_mem_cons.mpr ⟨lw_p79, fun _ h => absurd h List.not_mem_nil⟩⟩⟩⟩⟩⟩⟩⟩⟩⟩⟩⟩⟩⟩⟩⟩
theorem lw_p80 : lw_okq (⟨"CellFormatterModel", "place", "(IIZ)V"⟩, 21) := ⟨⟨by decide +kernel, by decide +kernel⟩, List.mem_of_getElem? (i := 791) (by decide +kernel), List.mem_of_getElem? (i := 1077) (by decide +kernel), List.mem_of_getElem? (i := 1078) (by decide +kernel)⟩
theorem lw_p81 : lw_okq (⟨"CellFormatterModel", "integerPlace", "(IIZZ)V"⟩, 21) := ⟨⟨by decide +kernel, by decide +kernel⟩, List.mem_of_getElem? (i := 791) (by decide +kernel), List.mem_of_getElem? (i := 1081) (by decide +kernel), List.mem_of_getElem? (i := 1082) (by decide +kernel)⟩
theorem lw_p82 : lw_okq (⟨"CellFormatterModel", "digitOf", "(I)I"⟩, 21) := ⟨⟨by decide +kernel, by decide +kernel⟩, List.mem_of_getElem? (i := 791) (by decide +kernel), List.mem_of_getElem? (i := 1085) (by decide +kernel), List.mem_of_getElem? (i := 1086) (by decide +kernel)⟩
theorem lw_p83 : lw_okq (⟨"CellFormatterModel", "fractionPlace", "(II)V"⟩, 21) := ⟨⟨by decide +kernel, by decide +kernel⟩, List.mem_of_getElem? (i := 791) (by decide +kernel), List.mem_of_getElem? (i := 1089) (by decide +kernel), List.mem_of_getElem? (i := 1090) (by decide +kernel)⟩
theorem lw_p84 : lw_okq (⟨"CellFormatterModel", "exponentPlace", "(IIZ)V"⟩, 21) := ⟨⟨by decide +kernel, by decide +kernel⟩, List.mem_of_getElem? (i := 791) (by decide +kernel), List.mem_of_getElem? (i := 1093) (by decide +kernel), List.mem_of_getElem? (i := 1094) (by decide +kernel)⟩
def lw_privs_6 : List (MethodName × Nat) := [(⟨"CellFormatterModel", "place", "(IIZ)V"⟩, 21), (⟨"CellFormatterModel", "integerPlace", "(IIZZ)V"⟩, 21), (⟨"CellFormatterModel", "digitOf", "(I)I"⟩, 21), (⟨"CellFormatterModel", "fractionPlace", "(II)V"⟩, 21), (⟨"CellFormatterModel", "exponentPlace", "(IIZ)V"⟩, 21)]
theorem lw_r6 : ∀ q ∈ lw_privs_6, lw_okq q := List.forall_mem_cons.mpr ⟨lw_p80, List.forall_mem_cons.mpr ⟨lw_p81, List.forall_mem_cons.mpr ⟨lw_p82, List.forall_mem_cons.mpr ⟨lw_p83, List.forall_mem_cons.mpr ⟨lw_p84, fun _ h => absurd h List.not_mem_nil⟩⟩⟩⟩⟩
def lw_privs : List (MethodName × Nat) := lw_privs_1 ++ (lw_privs_2 ++ (lw_privs_3 ++ (lw_privs_4 ++ (lw_privs_5 ++ (lw_privs_6)))))
def lw_tbl : List Cond := k2_sels lw_privs ++ tables_1
theorem lw_privs_ok : ∀ q ∈ lw_privs, lw_okq q := by
  show ∀ q ∈ lw_privs_1 ++ (lw_privs_2 ++ (lw_privs_3 ++ (lw_privs_4 ++ (lw_privs_5 ++ (lw_privs_6))))), lw_okq q
  exact List.forall_mem_append.mpr ⟨lw_r1, List.forall_mem_append.mpr ⟨lw_r2, List.forall_mem_append.mpr ⟨lw_r3, List.forall_mem_append.mpr ⟨lw_r4, List.forall_mem_append.mpr ⟨lw_r5, lw_r6⟩⟩⟩⟩⟩
end
section
/-! names: classes, their fields -/
def cf_T : List Cond := lw_tbl.filter goodWord
theorem cf_in {w : Cond} (i : Nat) (h : lw_tbl[i]? = some w) (hg : goodWord w = true) : w ∈ cf_T := List.mem_filter.mpr ⟨List.mem_of_getElem? h, hg⟩
def RX0 : String := "CellFormatter$Calendar"
def TX0 : u_T := fun k => match k with
  | 0 => ("CellFormatter$Calendar", "is1904", "Z", false)
  | 1 => ("CellFormatter$Calendar", "year", "I", false)
  | 2 => ("CellFormatter$Calendar", "month", "I", false)
  | 3 => ("CellFormatter$Calendar", "day", "I", false)
  | _ => ("CellFormatter$Calendar", "weekday", "I", false)
def tyX0 : Nat → FieldType := fun k => match k with
  | 0 => .boolean
  | 1 => .int
  | 2 => .int
  | 3 => .int
  | _ => .int
theorem nmX0 : ∀ a, a < 5 → ∀ b, b < 5 → a ≠ b → (TX0 a).2.1 ≠ (TX0 b).2.1 := by decide +kernel
theorem tyX0_ok : ∀ k, k < 5 → parseFieldDescriptor (TX0 k).2.2.1 = some (tyX0 k) := by decide +kernel
theorem inX0 : ∀ w ∈ u_ws RX0 TX0 5, w ∈ cf_T := by
  intro w hw
  obtain ⟨k, hk, rfl⟩ := List.mem_map.mp hw
  have hk : k < 5 := List.mem_range.mp hk
  match k, hk with
  | 0, _ => exact cf_in 238 (by decide +kernel) (by decide +kernel)
  | 1, _ => exact cf_in 240 (by decide +kernel) (by decide +kernel)
  | 2, _ => exact cf_in 242 (by decide +kernel) (by decide +kernel)
  | 3, _ => exact cf_in 244 (by decide +kernel) (by decide +kernel)
  | 4, _ => exact cf_in 246 (by decide +kernel) (by decide +kernel)
  | k + 5, hk => exact absurd hk (by omega)
abbrev cX0 : vw_C := (RX0, TX0, 5)
def RX1 : String := "CellFormatter$Decimal"
def TX1 : u_T := fun k => match k with
  | 0 => ("CellFormatter$Decimal", "digits", "J", false)
  | _ => ("CellFormatter$Decimal", "power", "I", false)
def tyX1 : Nat → FieldType := fun k => match k with
  | 0 => .long
  | _ => .int
theorem nmX1 : ∀ a, a < 2 → ∀ b, b < 2 → a ≠ b → (TX1 a).2.1 ≠ (TX1 b).2.1 := by decide +kernel
theorem tyX1_ok : ∀ k, k < 2 → parseFieldDescriptor (TX1 k).2.2.1 = some (tyX1 k) := by decide +kernel
theorem inX1 : ∀ w ∈ u_ws RX1 TX1 2, w ∈ cf_T := by
  intro w hw
  obtain ⟨k, hk, rfl⟩ := List.mem_map.mp hw
  have hk : k < 2 := List.mem_range.mp hk
  match k, hk with
  | 0, _ => exact cf_in 277 (by decide +kernel) (by decide +kernel)
  | 1, _ => exact cf_in 279 (by decide +kernel) (by decide +kernel)
  | k + 2, hk => exact absurd hk (by omega)
abbrev cX1 : vw_C := (RX1, TX1, 2)
def RX2 : String := "CellFormatter$MomentWriter"
def TX2 : u_T := fun k => match k with
  | 0 => ("CellFormatter$MomentWriter", "out", "LCellFormatter$Text;", true)
  | 1 => ("CellFormatter$MomentWriter", "days", "LCellFormatter$Calendar;", true)
  | 2 => ("CellFormatter$MomentWriter", "dayCount", "J", false)
  | _ => ("CellFormatter$MomentWriter", "seconds", "I", false)
def tyX2 : Nat → FieldType := fun k => match k with
  | 0 => .object "CellFormatter$Text"
  | 1 => .object "CellFormatter$Calendar"
  | 2 => .long
  | _ => .int
theorem nmX2 : ∀ a, a < 4 → ∀ b, b < 4 → a ≠ b → (TX2 a).2.1 ≠ (TX2 b).2.1 := by decide +kernel
theorem tyX2_ok : ∀ k, k < 4 → parseFieldDescriptor (TX2 k).2.2.1 = some (tyX2 k) := by decide +kernel
theorem inX2 : ∀ w ∈ u_ws RX2 TX2 4, w ∈ cf_T := by
  intro w hw
  obtain ⟨k, hk, rfl⟩ := List.mem_map.mp hw
  have hk : k < 4 := List.mem_range.mp hk
  match k, hk with
  | 0, _ => exact cf_in 314 (by decide +kernel) (by decide +kernel)
  | 1, _ => exact cf_in 316 (by decide +kernel) (by decide +kernel)
  | 2, _ => exact cf_in 318 (by decide +kernel) (by decide +kernel)
  | 3, _ => exact cf_in 320 (by decide +kernel) (by decide +kernel)
  | k + 4, hk => exact absurd hk (by omega)
abbrev cX2 : vw_C := (RX2, TX2, 4)
def RX3 : String := "CellFormatter$NumberWriter"
def TX3 : u_T := fun k => match k with
  | 0 => ("CellFormatter$NumberWriter", "out", "LCellFormatter$Text;", true)
  | 1 => ("CellFormatter$NumberWriter", "number", "LCellFormatter$Decimal;", true)
  | 2 => ("CellFormatter$NumberWriter", "exponentSize", "LCellFormatter$Decimal;", true)
  | 3 => ("CellFormatter$NumberWriter", "exponentNegative", "Z", false)
  | 4 => ("CellFormatter$NumberWriter", "integersLeft", "I", false)
  | 5 => ("CellFormatter$NumberWriter", "fractionsSeen", "I", false)
  | _ => ("CellFormatter$NumberWriter", "exponentsLeft", "I", false)
def tyX3 : Nat → FieldType := fun k => match k with
  | 0 => .object "CellFormatter$Text"
  | 1 => .object "CellFormatter$Decimal"
  | 2 => .object "CellFormatter$Decimal"
  | 3 => .boolean
  | 4 => .int
  | 5 => .int
  | _ => .int
theorem nmX3 : ∀ a, a < 7 → ∀ b, b < 7 → a ≠ b → (TX3 a).2.1 ≠ (TX3 b).2.1 := by decide +kernel
theorem tyX3_ok : ∀ k, k < 7 → parseFieldDescriptor (TX3 k).2.2.1 = some (tyX3 k) := by decide +kernel
theorem inX3 : ∀ w ∈ u_ws RX3 TX3 7, w ∈ cf_T := by
  intro w hw
  obtain ⟨k, hk, rfl⟩ := List.mem_map.mp hw
  have hk : k < 7 := List.mem_range.mp hk
  match k, hk with
  | 0, _ => exact cf_in 289 (by decide +kernel) (by decide +kernel)
  | 1, _ => exact cf_in 291 (by decide +kernel) (by decide +kernel)
  | 2, _ => exact cf_in 293 (by decide +kernel) (by decide +kernel)
  | 3, _ => exact cf_in 295 (by decide +kernel) (by decide +kernel)
  | 4, _ => exact cf_in 297 (by decide +kernel) (by decide +kernel)
  | 5, _ => exact cf_in 299 (by decide +kernel) (by decide +kernel)
  | 6, _ => exact cf_in 301 (by decide +kernel) (by decide +kernel)
  | k + 7, hk => exact absurd hk (by omega)
abbrev cX3 : vw_C := (RX3, TX3, 7)
def RX4 : String := "CellFormatter$Scanner"
def TX4 : u_T := fun k => match k with
  | 0 => ("CellFormatter$Scanner", "tokens", "LCellFormatter$Tokens;", true)
  | 1 => ("CellFormatter$Scanner", "code", "[C", false)
  | _ => ("CellFormatter$Scanner", "length", "I", false)
def tyX4 : Nat → FieldType := fun k => match k with
  | 0 => .object "CellFormatter$Tokens"
  | 1 => .array .char
  | _ => .int
theorem nmX4 : ∀ a, a < 3 → ∀ b, b < 3 → a ≠ b → (TX4 a).2.1 ≠ (TX4 b).2.1 := by decide +kernel
theorem tyX4_ok : ∀ k, k < 3 → parseFieldDescriptor (TX4 k).2.2.1 = some (tyX4 k) := by decide +kernel
theorem inX4 : ∀ w ∈ u_ws RX4 TX4 3, w ∈ cf_T := by
  intro w hw
  obtain ⟨k, hk, rfl⟩ := List.mem_map.mp hw
  have hk : k < 3 := List.mem_range.mp hk
  match k, hk with
  | 0, _ => exact cf_in 141 (by decide +kernel) (by decide +kernel)
  | 1, _ => exact cf_in 143 (by decide +kernel) (by decide +kernel)
  | 2, _ => exact cf_in 145 (by decide +kernel) (by decide +kernel)
  | k + 3, hk => exact absurd hk (by omega)
abbrev cX4 : vw_C := (RX4, TX4, 3)
def RX5 : String := "CellFormatter$Section"
def TX5 : u_T := fun k => match k with
  | 0 => ("CellFormatter$Section", "first", "I", false)
  | 1 => ("CellFormatter$Section", "end", "I", false)
  | 2 => ("CellFormatter$Section", "kind", "I", false)
  | 3 => ("CellFormatter$Section", "test", "I", false)
  | 4 => ("CellFormatter$Section", "bound", "J", false)
  | 5 => ("CellFormatter$Section", "pointAt", "I", false)
  | 6 => ("CellFormatter$Section", "exponentAt", "I", false)
  | 7 => ("CellFormatter$Section", "integerPlaces", "I", false)
  | 8 => ("CellFormatter$Section", "fractionPlaces", "I", false)
  | 9 => ("CellFormatter$Section", "exponentPlaces", "I", false)
  | 10 => ("CellFormatter$Section", "percents", "I", false)
  | 11 => ("CellFormatter$Section", "scalings", "I", false)
  | 12 => ("CellFormatter$Section", "grouped", "Z", false)
  | 13 => ("CellFormatter$Section", "twelveHours", "Z", false)
  | _ => ("CellFormatter$Section", "namesDay", "Z", false)
def tyX5 : Nat → FieldType := fun k => match k with
  | 0 => .int
  | 1 => .int
  | 2 => .int
  | 3 => .int
  | 4 => .long
  | 5 => .int
  | 6 => .int
  | 7 => .int
  | 8 => .int
  | 9 => .int
  | 10 => .int
  | 11 => .int
  | 12 => .boolean
  | 13 => .boolean
  | _ => .boolean
theorem nmX5 : ∀ a, a < 15 → ∀ b, b < 15 → a ≠ b → (TX5 a).2.1 ≠ (TX5 b).2.1 := by decide +kernel
theorem tyX5_ok : ∀ k, k < 15 → parseFieldDescriptor (TX5 k).2.2.1 = some (tyX5 k) := by decide +kernel
theorem inX5 : ∀ w ∈ u_ws RX5 TX5 15, w ∈ cf_T := by
  intro w hw
  obtain ⟨k, hk, rfl⟩ := List.mem_map.mp hw
  have hk : k < 15 := List.mem_range.mp hk
  match k, hk with
  | 0, _ => exact cf_in 187 (by decide +kernel) (by decide +kernel)
  | 1, _ => exact cf_in 189 (by decide +kernel) (by decide +kernel)
  | 2, _ => exact cf_in 191 (by decide +kernel) (by decide +kernel)
  | 3, _ => exact cf_in 193 (by decide +kernel) (by decide +kernel)
  | 4, _ => exact cf_in 195 (by decide +kernel) (by decide +kernel)
  | 5, _ => exact cf_in 197 (by decide +kernel) (by decide +kernel)
  | 6, _ => exact cf_in 199 (by decide +kernel) (by decide +kernel)
  | 7, _ => exact cf_in 201 (by decide +kernel) (by decide +kernel)
  | 8, _ => exact cf_in 203 (by decide +kernel) (by decide +kernel)
  | 9, _ => exact cf_in 205 (by decide +kernel) (by decide +kernel)
  | 10, _ => exact cf_in 207 (by decide +kernel) (by decide +kernel)
  | 11, _ => exact cf_in 209 (by decide +kernel) (by decide +kernel)
  | 12, _ => exact cf_in 211 (by decide +kernel) (by decide +kernel)
  | 13, _ => exact cf_in 213 (by decide +kernel) (by decide +kernel)
  | 14, _ => exact cf_in 215 (by decide +kernel) (by decide +kernel)
  | k + 15, hk => exact absurd hk (by omega)
abbrev cX5 : vw_C := (RX5, TX5, 15)
def RX6 : String := "CellFormatter$Text"
def TX6 : u_T := fun k => match k with
  | 0 => ("CellFormatter$Text", "chars", "[C", true)
  | _ => ("CellFormatter$Text", "length", "I", false)
def tyX6 : Nat → FieldType := fun k => match k with
  | 0 => .array .char
  | _ => .int
theorem nmX6 : ∀ a, a < 2 → ∀ b, b < 2 → a ≠ b → (TX6 a).2.1 ≠ (TX6 b).2.1 := by decide +kernel
theorem tyX6_ok : ∀ k, k < 2 → parseFieldDescriptor (TX6 k).2.2.1 = some (tyX6 k) := by decide +kernel
theorem inX6 : ∀ w ∈ u_ws RX6 TX6 2, w ∈ cf_T := by
  intro w hw
  obtain ⟨k, hk, rfl⟩ := List.mem_map.mp hw
  have hk : k < 2 := List.mem_range.mp hk
  match k, hk with
  | 0, _ => exact cf_in 258 (by decide +kernel) (by decide +kernel)
  | 1, _ => exact cf_in 260 (by decide +kernel) (by decide +kernel)
  | k + 2, hk => exact absurd hk (by omega)
abbrev cX6 : vw_C := (RX6, TX6, 2)
def RX7 : String := "CellFormatter$Tokens"
def TX7 : u_T := fun k => match k with
  | 0 => ("CellFormatter$Tokens", "types", "[I", true)
  | 1 => ("CellFormatter$Tokens", "values", "[I", true)
  | 2 => ("CellFormatter$Tokens", "details", "[I", true)
  | _ => ("CellFormatter$Tokens", "size", "I", false)
def tyX7 : Nat → FieldType := fun k => match k with
  | 0 => .array .int
  | 1 => .array .int
  | 2 => .array .int
  | _ => .int
theorem nmX7 : ∀ a, a < 4 → ∀ b, b < 4 → a ≠ b → (TX7 a).2.1 ≠ (TX7 b).2.1 := by decide +kernel
theorem tyX7_ok : ∀ k, k < 4 → parseFieldDescriptor (TX7 k).2.2.1 = some (tyX7 k) := by decide +kernel
theorem inX7 : ∀ w ∈ u_ws RX7 TX7 4, w ∈ cf_T := by
  intro w hw
  obtain ⟨k, hk, rfl⟩ := List.mem_map.mp hw
  have hk : k < 4 := List.mem_range.mp hk
  match k, hk with
  | 0, _ => exact cf_in 121 (by decide +kernel) (by decide +kernel)
  | 1, _ => exact cf_in 123 (by decide +kernel) (by decide +kernel)
  | 2, _ => exact cf_in 125 (by decide +kernel) (by decide +kernel)
  | 3, _ => exact cf_in 127 (by decide +kernel) (by decide +kernel)
  | k + 4, hk => exact absurd hk (by omega)
abbrev cX7 : vw_C := (RX7, TX7, 4)
def RX8 : String := "CellFormatter"
def TX8 : u_T := fun k => match k with
  | 0 => ("CellFormatter", "code", "[C", true)
  | 1 => ("CellFormatter", "codeLength", "I", false)
  | 2 => ("CellFormatter", "tokens", "LCellFormatter$Tokens;", true)
  | 3 => ("CellFormatter", "scanner", "LCellFormatter$Scanner;", true)
  | 4 => ("CellFormatter", "parts", "[LCellFormatter$Section;", true)
  | 5 => ("CellFormatter", "partCount", "I", false)
  | 6 => ("CellFormatter", "conditional", "Z", false)
  | 7 => ("CellFormatter", "days", "LCellFormatter$Calendar;", true)
  | 8 => ("CellFormatter", "shown", "LCellFormatter$Text;", true)
  | 9 => ("CellFormatter", "shownBy", "I", false)
  | 10 => ("CellFormatter", "numbers", "LCellFormatter$NumberWriter;", true)
  | _ => ("CellFormatter", "moments", "LCellFormatter$MomentWriter;", true)
def tyX8 : Nat → FieldType := fun k => match k with
  | 0 => .array .char
  | 1 => .int
  | 2 => .object "CellFormatter$Tokens"
  | 3 => .object "CellFormatter$Scanner"
  | 4 => .array (.object "CellFormatter$Section")
  | 5 => .int
  | 6 => .boolean
  | 7 => .object "CellFormatter$Calendar"
  | 8 => .object "CellFormatter$Text"
  | 9 => .int
  | 10 => .object "CellFormatter$NumberWriter"
  | _ => .object "CellFormatter$MomentWriter"
theorem nmX8 : ∀ a, a < 12 → ∀ b, b < 12 → a ≠ b → (TX8 a).2.1 ≠ (TX8 b).2.1 := by decide +kernel
theorem tyX8_ok : ∀ k, k < 12 → parseFieldDescriptor (TX8 k).2.2.1 = some (tyX8 k) := by decide +kernel
theorem inX8 : ∀ w ∈ u_ws RX8 TX8 12, w ∈ cf_T := by
  intro w hw
  obtain ⟨k, hk, rfl⟩ := List.mem_map.mp hw
  have hk : k < 12 := List.mem_range.mp hk
  match k, hk with
  | 0, _ => exact cf_in 335 (by decide +kernel) (by decide +kernel)
  | 1, _ => exact cf_in 337 (by decide +kernel) (by decide +kernel)
  | 2, _ => exact cf_in 339 (by decide +kernel) (by decide +kernel)
  | 3, _ => exact cf_in 341 (by decide +kernel) (by decide +kernel)
  | 4, _ => exact cf_in 343 (by decide +kernel) (by decide +kernel)
  | 5, _ => exact cf_in 345 (by decide +kernel) (by decide +kernel)
  | 6, _ => exact cf_in 347 (by decide +kernel) (by decide +kernel)
  | 7, _ => exact cf_in 349 (by decide +kernel) (by decide +kernel)
  | 8, _ => exact cf_in 351 (by decide +kernel) (by decide +kernel)
  | 9, _ => exact cf_in 353 (by decide +kernel) (by decide +kernel)
  | 10, _ => exact cf_in 355 (by decide +kernel) (by decide +kernel)
  | 11, _ => exact cf_in 357 (by decide +kernel) (by decide +kernel)
  | k + 12, hk => exact absurd hk (by omega)
abbrev cX8 : vw_C := (RX8, TX8, 12)
def RX9 : String := "CellFormatterModel"
def TX9 : u_T := fun k => match k with
  | 0 => ("CellFormatterModel", "size", "I", false)
  | 1 => ("CellFormatterModel", "code", "[I", true)
  | 2 => ("CellFormatterModel", "sections", "I", false)
  | 3 => ("CellFormatterModel", "text", "[I", true)
  | 4 => ("CellFormatterModel", "tokens", "I", false)
  | 5 => ("CellFormatterModel", "type", "[I", true)
  | 6 => ("CellFormatterModel", "first", "[I", true)
  | 7 => ("CellFormatterModel", "second", "[I", true)
  | 8 => ("CellFormatterModel", "start", "[I", true)
  | 9 => ("CellFormatterModel", "is1904", "Z", false)
  | 10 => ("CellFormatterModel", "end", "I", false)
  | 11 => ("CellFormatterModel", "met", "I", false)
  | 12 => ("CellFormatterModel", "metFirst", "I", false)
  | 13 => ("CellFormatterModel", "metSecond", "I", false)
  | 14 => ("CellFormatterModel", "shownBy", "I", false)
  | 15 => ("CellFormatterModel", "shown", "I", false)
  | 16 => ("CellFormatterModel", "out", "[C", true)
  | 17 => ("CellFormatterModel", "amount", "J", false)
  | 18 => ("CellFormatterModel", "zeros", "I", false)
  | 19 => ("CellFormatterModel", "decimals", "I", false)
  | _ => ("CellFormatterModel", "power", "I", false)
def tyX9 : Nat → FieldType := fun k => match k with
  | 0 => .int
  | 1 => .array .int
  | 2 => .int
  | 3 => .array .int
  | 4 => .int
  | 5 => .array .int
  | 6 => .array .int
  | 7 => .array .int
  | 8 => .array .int
  | 9 => .boolean
  | 10 => .int
  | 11 => .int
  | 12 => .int
  | 13 => .int
  | 14 => .int
  | 15 => .int
  | 16 => .array .char
  | 17 => .long
  | 18 => .int
  | 19 => .int
  | _ => .int
theorem nmX9 : ∀ a, a < 21 → ∀ b, b < 21 → a ≠ b → (TX9 a).2.1 ≠ (TX9 b).2.1 := by decide +kernel
theorem tyX9_ok : ∀ k, k < 21 → parseFieldDescriptor (TX9 k).2.2.1 = some (tyX9 k) := by decide +kernel
theorem inX9 : ∀ w ∈ u_ws RX9 TX9 21, w ∈ cf_T := by
  intro w hw
  obtain ⟨k, hk, rfl⟩ := List.mem_map.mp hw
  have hk : k < 21 := List.mem_range.mp hk
  match k, hk with
  | 0, _ => exact cf_in 902 (by decide +kernel) (by decide +kernel)
  | 1, _ => exact cf_in 904 (by decide +kernel) (by decide +kernel)
  | 2, _ => exact cf_in 906 (by decide +kernel) (by decide +kernel)
  | 3, _ => exact cf_in 908 (by decide +kernel) (by decide +kernel)
  | 4, _ => exact cf_in 910 (by decide +kernel) (by decide +kernel)
  | 5, _ => exact cf_in 912 (by decide +kernel) (by decide +kernel)
  | 6, _ => exact cf_in 914 (by decide +kernel) (by decide +kernel)
  | 7, _ => exact cf_in 916 (by decide +kernel) (by decide +kernel)
  | 8, _ => exact cf_in 918 (by decide +kernel) (by decide +kernel)
  | 9, _ => exact cf_in 920 (by decide +kernel) (by decide +kernel)
  | 10, _ => exact cf_in 922 (by decide +kernel) (by decide +kernel)
  | 11, _ => exact cf_in 924 (by decide +kernel) (by decide +kernel)
  | 12, _ => exact cf_in 926 (by decide +kernel) (by decide +kernel)
  | 13, _ => exact cf_in 928 (by decide +kernel) (by decide +kernel)
  | 14, _ => exact cf_in 930 (by decide +kernel) (by decide +kernel)
  | 15, _ => exact cf_in 932 (by decide +kernel) (by decide +kernel)
  | 16, _ => exact cf_in 934 (by decide +kernel) (by decide +kernel)
  | 17, _ => exact cf_in 936 (by decide +kernel) (by decide +kernel)
  | 18, _ => exact cf_in 938 (by decide +kernel) (by decide +kernel)
  | 19, _ => exact cf_in 940 (by decide +kernel) (by decide +kernel)
  | 20, _ => exact cf_in 942 (by decide +kernel) (by decide +kernel)
  | k + 21, hk => exact absurd hk (by omega)
abbrev cX9 : vw_C := (RX9, TX9, 21)
def cf_cl : List vw_C := [cX0, cX1, cX2, cX3, cX4, cX5, cX6, cX7, cX8, cX9]
def cf_kd (ci k : Nat) : Nat := match ci, k with
  | 1, 0 => 1
  | 2, 0 => 2
  | 2, 1 => 2
  | 2, 2 => 1
  | 3, 0 => 2
  | 3, 1 => 2
  | 3, 2 => 2
  | 4, 0 => 2
  | 4, 1 => 2
  | 5, 4 => 1
  | 6, 0 => 2
  | 7, 0 => 2
  | 7, 1 => 2
  | 7, 2 => 2
  | 8, 0 => 2
  | 8, 2 => 2
  | 8, 3 => 2
  | 8, 4 => 2
  | 8, 7 => 2
  | 8, 8 => 2
  | 8, 10 => 2
  | 8, 11 => 2
  | 9, 1 => 2
  | 9, 3 => 2
  | 9, 5 => 2
  | 9, 6 => 2
  | 9, 7 => 2
  | 9, 8 => 2
  | 9, 16 => 2
  | 9, 17 => 1
  | _, _ => 0
def cf_N (ci : Nat) : Nat := match ci with
  | 0 => 5
  | 1 => 2
  | 2 => 4
  | 3 => 7
  | 4 => 3
  | 5 => 15
  | 6 => 2
  | 7 => 4
  | 8 => 12
  | 9 => 21
  | _ => 0
end
section
/-! THE PURE PICTURE: int-like fields, long fields, reference fields, arrays; by object number -/
abbrev cf_H : Type := (Nat → Nat → Int32) × (Nat → Nat → Int64) × (Nat → Nat → Option Nat) × (Nat → Nat → Int32)
/-- a method: its name, its code, its locals, its answer's type, the frames and locals of its room -/
abbrev cf_M : Type := MethodName × ByteArray × Nat × Option FieldType × Nat × Nat
def cf_own (M : cf_M) : String := M.1.cls
def cf_code (M : cf_M) : ByteArray := M.2.1
def cf_mL (M : cf_M) : Nat := M.2.2.1
def cf_ret (M : cf_M) : Option FieldType := M.2.2.2.1
def cf_rm (M : cf_M) : Room := { frames := M.2.2.2.2.1, cells := 0, slots := 0, locals := M.2.2.2.2.2 }
def cf_wsM (M : cf_M) : List Cond := .code M.1 (cf_code M) (cf_mL M) (cf_ret M) :: cf_T
def cf_u2 {α : Type} (f : Nat → Nat → α) (o k : Nat) (v : α) : Nat → Nat → α := fun a b => bif (Nat.beq a o && Nat.beq b k) then v else f a b
def cf_u1 {α : Type} (f : Nat → α) (o : Nat) (v : α) : Nat → α := fun a => bif Nat.beq a o then v else f a
theorem cf_beq {a b : Nat} (h : a ≠ b) : Nat.beq a b = false := by
  cases e : Nat.beq a b with
  | false => rfl
  | true => exact absurd (Nat.eq_of_beq_eq_true e) h
theorem cf_u2_same {α : Type} (f : Nat → Nat → α) (o k : Nat) (v : α) : cf_u2 f o k v o k = v := by simp [cf_u2]
theorem cf_u2_o {α : Type} (f : Nat → Nat → α) {o k a b : Nat} (v : α) (h : a ≠ o) : cf_u2 f o k v a b = f a b := by simp [cf_u2, cf_beq h]
theorem cf_u2_k {α : Type} (f : Nat → Nat → α) {o k a b : Nat} (v : α) (h : b ≠ k) : cf_u2 f o k v a b = f a b := by simp [cf_u2, cf_beq h]
theorem cf_u1_same {α : Type} (f : Nat → α) (o : Nat) (v : α) : cf_u1 f o v o = v := by simp [cf_u1]
theorem cf_u1_o {α : Type} (f : Nat → α) {o a : Nat} (v : α) (h : a ≠ o) : cf_u1 f o v a = f a := by simp [cf_u1, cf_beq h]
def cf_pI (h : cf_H) (o k : Nat) (x : Int32) : cf_H := (cf_u2 h.1 o k x, h.2)
def cf_pJ (h : cf_H) (o k : Nat) (x : Int64) : cf_H := (h.1, cf_u2 h.2.1 o k x, h.2.2)
def cf_pR (h : cf_H) (o k : Nat) (x : Option Nat) : cf_H := (h.1, h.2.1, cf_u2 h.2.2.1 o k x, h.2.2.2)
def cf_pA (h : cf_H) (o : Nat) (i : Int32) (x : Int32) : cf_H := (h.1, h.2.1, h.2.2.1, cf_u1 h.2.2.2 o (upd (h.2.2.2 o) i.toNatClampNeg x))
/-- the objects: of a class, or an array of a type (0 int, 1 char, 2 Section) and a length -/
def cf_shl : List (Nat ⊕ (Nat × Nat)) := [.inl 8, .inr (1, 40), .inl 7, .inr (0, 40), .inr (0, 40), .inr (0, 40), .inl 4, .inr (1, 0), .inr (2, 3), .inl 5, .inl 5, .inl 5, .inl 0, .inl 6, .inr (1, 256), .inl 3, .inl 1, .inl 1, .inl 2, .inl 9, .inr (0, 40), .inr (0, 40), .inr (0, 40), .inr (0, 40), .inr (0, 40), .inr (0, 42), .inr (1, 600)]
def cf_RA (j : Nat) : Option Nat := match j with | 0 => some 9 | 1 => some 10 | _ => some 11
abbrev cf_G : Type := (Nat → Nat) × va_G × (Nat → ClassId)
def cf_tr (ad : Nat → Nat) (v : Value) : Value := match v with | .ref k => .ref (ad k) | w => w
def cf_fv (ad : Nat → Nat) (h : cf_H) (o ci k : Nat) : Value := match cf_kd ci k with
  | 0 => .int (h.1 o k)
  | 1 => .long (h.2.1 o k)
  | _ => va_rf ((h.2.2.1 o k).map ad)
def cf_cell (g : cf_G) (h : cf_H) (o : Nat) (s : Nat ⊕ (Nat × Nat)) : va_E := match s with
  | .inl ci => .inr (ci, (List.range (cf_N ci)).map (cf_fv g.1 h o ci))
  | .inr (t, n) => .inl (g.2.2 t, n, match t with | 2 => .inr (.inr (.inr (.inr (fun j => (cf_RA j).map g.1)))) | _ => .inl (h.2.2.2 o))
def cf_ws (g : cf_G) (h : cf_H) : va_W := cf_shl.mapIdx (fun o s => (g.1 o, cf_cell g h o s))
def cf_tys (dA : Nat → ClassId) : List (ClassId × FieldType) := [(dA 0, .int), (dA 1, .char), (dA 2, .object "CellFormatter$Section")]
def cf_A (ad : Nat → Nat) : Nat → Prop := fun q => ∃ k, k < 27 ∧ q = ad k
/-! constants: statics, static arrays (100, 101), String constants (110 + i, their bytes 130 + i) -/
def cf_sts : List (String × String × String × Value) := [("java/lang/String", "COMPACT_STRINGS", "Z", .int 1), ("CellFormatter", "POWERS", "[J", .ref 100), ("CellFormatter$Calendar", "MONTH_LENGTHS", "[I", .ref 101)]
def cf_pw : List Int64 := [1, 10, 100, 1000, 10000, 100000, 1000000, 10000000, 100000000, 1000000000, 10000000000, 100000000000, 1000000000000, 10000000000000, 100000000000000, 1000000000000000, 10000000000000000, 100000000000000000, 1000000000000000000]
def cf_ml : List Int32 := [31, 28, 31, 30, 31, 30, 31, 31, 30, 31, 30, 31]
def cf_byt : List (List Int32) := [[104, 109, 115], [65, 77, 47, 80, 77], [121, 109, 100, 104, 115], [32, 33, 36, 38, 39, 40, 41, 43, 45, 47, 58, 61, 94, 123, 125, 126], [48, 35, 63], [74, 97, 110, 70, 101, 98, 77, 97, 114, 65, 112, 114, 77, 97, 121, 74, 117, 110, 74, 117, 108, 65, 117, 103, 83, 101, 112, 79, 99, 116, 78, 111, 118, 68, 101, 99], [83, 117, 110, 77, 111, 110, 84, 117, 101, 87, 101, 100, 84, 104, 117, 70, 114, 105, 83, 97, 116]]
def cf_strs : List (String × Nat × String) := [("CellFormatter$Scanner", 75, "hms"), ("CellFormatter$Scanner", 87, "AM/PM"), ("CellFormatter$Scanner", 57, "ymdhs"), ("CellFormatter$Scanner", 99, " !$&'()+-/:=^{}~"), ("CellFormatter$Scanner", 101, "0#?"), ("CellFormatter$MomentWriter", 108, "JanFebMarAprMayJunJulAugSepOctNovDec"), ("CellFormatter$MomentWriter", 117, "SunMonTueWedThuFriSat")]
def cf_ka (k : Nat) : Option (FieldType × Nat × (Nat → Value)) := match k with
  | 100 => some (.long, 19, fun j => .long (cf_pw.getD j 0))
  | 101 => some (.int, 12, fun j => .int (cf_ml.getD j 0))
  | 130 => some (.byte, 3, fun j => .int ((cf_byt.getD 0 []).getD j 0))
  | 131 => some (.byte, 5, fun j => .int ((cf_byt.getD 1 []).getD j 0))
  | 132 => some (.byte, 5, fun j => .int ((cf_byt.getD 2 []).getD j 0))
  | 133 => some (.byte, 16, fun j => .int ((cf_byt.getD 3 []).getD j 0))
  | 134 => some (.byte, 3, fun j => .int ((cf_byt.getD 4 []).getD j 0))
  | 135 => some (.byte, 36, fun j => .int ((cf_byt.getD 5 []).getD j 0))
  | 136 => some (.byte, 21, fun j => .int ((cf_byt.getD 6 []).getD j 0))
  | _ => none
def cf_CK (g : cf_G) (U : State) (H : Heap) : Prop := (∀ q ∈ cf_sts, va_Z q.1 q.2.1 q.2.2.1 (cf_tr g.1 q.2.2.2) (cf_A g.1) U H) ∧ (∀ k ty n f, cf_ka k = some (ty, n, f) → va_T ty (g.1 k) n f (cf_A g.1) U H) ∧ (∀ i own idx tx, cf_strs[i]? = some (own, idx, tx) → vk_R own idx tx (g.1 (110 + i)) U ∧ va_O "java/lang/String" (g.1 (110 + i)) (cf_A g.1) U H ∧ va_OF "java/lang/String" "coder" "B" (.int 0) (g.1 (110 + i)) (cf_A g.1) U H ∧ va_OF "java/lang/String" "value" "[B" (.ref (g.1 (130 + i))) (g.1 (110 + i)) (cf_A g.1) U H) ∧ (va_Z "jdk/internal/util/Preconditions" "SIOOBE_FORMATTER" "Ljava/util/function/BiFunction;" .null (cf_A g.1) U H ∨ va_Z "jdk/internal/util/Preconditions" "SIOOBE_FORMATTER" "Ljava/util/function/BiFunction;" (.ref (g.1 199)) (cf_A g.1) U H) ∧ (∀ a i b n d z, Cond.fieldLinkNest a i b n d z ∈ lw_tbl → va_Nw (.fieldLinkNest a i b n d z) U) ∧ (∀ a i x z, Cond.methodLinkNest a i x z ∈ lw_tbl → va_Nw (.methodLinkNest a i x z) U)
def cf_inj (g : cf_G) : Prop := ∀ i j, i < 27 → j < 27 → g.1 i = g.1 j → i = j
def cf_E (g : cf_G) (U : State) (H : Heap) : Prop := va_K g.2.1 cf_cl (cf_tys g.2.2) U ∧ cf_CK g U H ∧ cf_inj g
/-- what holds at a method's entry -/
def cf_C (g : cf_G) (M : cf_M) (p : Program) (s : State) (m : MethodId) (args : Array Value) (meth : Method) (c : Code) : Prop :=
  p.tables.exec = Jvm.exec ∧ c.code = cf_code M ∧ c.maxLocals = cf_mL M ∧ meth.sig.returnType = cf_ret M ∧ s.vm.findClass (cf_own M) = some m.cls ∧ (∀ w ∈ cf_T, w.before args s = true) ∧ meth.locks = false ∧ cf_E g s s.heap
def cf_lk : List (Nat × Value) → Nat → Option Value
  | [], _ => none
  | (j, v) :: l, i => bif Nat.beq j i then some v else cf_lk l i
def cf_L (ad : Nat → Nat) (ls : Array Slot) (nL : Nat) (lv : List (Nat × Value)) : Prop := ∃ l, lv_has ls nL l ∧ ∀ i v, cf_lk lv i = some v → v ≠ .null → (i, cf_tr ad v) ∈ l
def cf_Qc (g : cf_G) (P : Option Value → cf_H → Prop) : Array Value → State → Outcome → State → Prop := fun _ st o t => (∃ (r : Option Value) (h' : cf_H), o = .returned (r.map (cf_tr g.1)) ∧ P r h' ∧ va_P g.2.1 cf_cl (cf_ws g h') t.heap) ∧ va_F (cf_A g.1) st t
/-- THE JUDGEMENT: method M, at pc, with locals lv, stack st, in picture h, returns, and its answer and picture meet P -/
def RP (M : cf_M) (pc : Nat) (lv : List (Nat × Value)) (st : List Value) (h : cf_H) (P : Option Value → cf_H → Prop) : Prop :=
  ∀ (g : cf_G) (p : Program) (l : Launch) (e : Env) (s : State) (m : MethodId) (args : Array Value) (below : List Frame) (meth : Method) (c : Code), cf_C g M p s m args meth c →
    ∀ (H : Heap) (locs : List Loc) (ls : Array Slot), va_P g.2.1 cf_cl (cf_ws g h) H → va_S (cf_A g.1) s.heap H locs → cf_L g.1 ls (cf_mL M) lv →
      W p l e (cf_rm M) s m args below meth c H locs 0 0 (MQ below (cf_Qc g P) args s 0 0 (cf_A g.1)) (F0 m pc ls (st.map (cf_tr g.1)))
def cf_D (M : cf_M) (pc : Nat) (i : Instr) (n pc' : Nat) : Prop := decode (cf_code M) pc = .ok (i, n) ∧ pc + n = pc'
/-! the world's rows -/
theorem cf_ws_at {g : cf_G} {h : cf_H} {o : Nat} {sh : Nat ⊕ (Nat × Nat)} (ho : cf_shl[o]? = some sh) : (cf_ws g h)[o]? = some (g.1 o, cf_cell g h o sh) := by
  simp [cf_ws, ho]
theorem cf_ws_of {g : cf_G} {h : cf_H} {o : Nat} {q : Nat × va_E} (hq : (cf_ws g h)[o]? = some q) : q.1 = g.1 o ∧ o < 27 := by
  unfold cf_ws at hq
  rw [List.getElem?_mapIdx] at hq
  cases hs : cf_shl[o]? with
  | none => rw [hs] at hq; cases hq
  | some sh =>
    rw [hs] at hq
    cases hq
    have := (List.getElem?_eq_some_iff.mp hs).1
    exact ⟨rfl, this⟩
theorem cf_wD {g : cf_G} (h : cf_H) (hi : cf_inj g) : va_D (cf_A g.1) (cf_ws g h) := by
  refine ⟨fun i j p q hp hq e => ?_, fun k q hq => ?_⟩
  · obtain ⟨e1, h1⟩ := cf_ws_of hp
    obtain ⟨e2, h2⟩ := cf_ws_of hq
    exact hi i j h1 h2 (by rw [← e1, ← e2]; exact e)
  · obtain ⟨e1, h1⟩ := cf_ws_of hq
    exact ⟨k, h1, e1⟩
theorem cf_ws_set {g : cf_G} {h h' : cf_H} {o : Nat} {sh : Nat ⊕ (Nat × Nat)} {E : va_E} (ho : cf_shl[o]? = some sh) (hn : cf_cell g h' o sh = E) (hoth : ∀ a z, cf_shl[a]? = some z → a ≠ o → cf_cell g h' a z = cf_cell g h a z) : (cf_ws g h).set o (g.1 o, E) = cf_ws g h' := by
  apply List.ext_getElem?
  intro a
  rw [List.getElem?_set]
  by_cases ha : o = a
  · subst ha
    rw [cf_ws_at (h := h') ho, hn]
    have hlt : o < (cf_ws g h).length := by
      unfold cf_ws; rw [List.length_mapIdx]; exact (List.getElem?_eq_some_iff.mp ho).1
    simp [hlt]
  · rw [if_neg ha]
    unfold cf_ws
    rw [List.getElem?_mapIdx, List.getElem?_mapIdx]
    cases hz : cf_shl[a]? with
    | none => rfl
    | some z => simp only [Option.map_some]; rw [hoth a z hz (fun e => ha e.symm)]
theorem cf_fld_at {g : cf_G} {h : cf_H} {o ci k N : Nat} (hN : cf_N ci = N) (hk : k < N) : ((List.range (cf_N ci)).map (cf_fv g.1 h o ci))[k]? = some (cf_fv g.1 h o ci k) := by
  rw [List.getElem?_map, List.getElem?_range (by omega)]; rfl
theorem cf_fld_set {g : cf_G} {h h' : cf_H} {o ci k N : Nat} {v : Value} (hN : cf_N ci = N) (hk : k < N) (hv : cf_fv g.1 h' o ci k = v) (hoth : ∀ j, j ≠ k → cf_fv g.1 h' o ci j = cf_fv g.1 h o ci j) : (List.range (cf_N ci)).map (cf_fv g.1 h' o ci) = ((List.range (cf_N ci)).map (cf_fv g.1 h o ci)).set k v := by
  apply List.ext_getElem?
  intro a
  rw [List.getElem?_set]
  by_cases ha : k = a
  · subst ha
    rw [cf_fld_at hN hk, hv]
    simp [hN, hk]
  · rw [if_neg ha, List.getElem?_map, List.getElem?_map]
    by_cases hz : a < cf_N ci
    · rw [List.getElem?_range hz]
      simp only [Option.map_some]
      rw [hoth a (fun e => ha e.symm)]
    · rw [List.getElem?_eq_none (by simpa using hz)]
      rfl


theorem cf_tr_i (ad : Nat → Nat) (x : Int32) : cf_tr ad (.int x) = .int x := rfl
theorem cf_fv0 {ad : Nat → Nat} {h : cf_H} {o ci k : Nat} (hk : cf_kd ci k = 0) : cf_fv ad h o ci k = .int (h.1 o k) := by unfold cf_fv; rw [hk]; rfl
theorem cf_fv1 {ad : Nat → Nat} {h : cf_H} {o ci k : Nat} (hk : cf_kd ci k = 1) : cf_fv ad h o ci k = .long (h.2.1 o k) := by unfold cf_fv; rw [hk]; rfl
theorem cf_fv2 {ad : Nat → Nat} {h : cf_H} {o ci k : Nat} (hk : cf_kd ci k = 2) : cf_fv ad h o ci k = va_rf ((h.2.2.1 o k).map ad) := by unfold cf_fv; rw [hk]; rfl
/-! locals -/
theorem cf_L.at {ad : Nat → Nat} {ls : Array Slot} {nL : Nat} {lv : List (Nat × Value)} (h : cf_L ad ls nL lv) {i : Nat} {v : Value} (hl : cf_lk lv i = some v) (hv : v ≠ .null) : ls[i]? = some (.val (cf_tr ad v)) := by
  obtain ⟨l, h1, h2⟩ := h
  exact h1.2.2 _ (h2 i v hl hv)
theorem cf_L.sub {ad : Nat → Nat} {ls : Array Slot} {nL : Nat} {lv lv' : List (Nat × Value)} (h : cf_L ad ls nL lv) (hs : ∀ q ∈ lv', cf_lk lv q.1 = some q.2) : cf_L ad ls nL lv' := by
  obtain ⟨l, h1, h2⟩ := h
  refine ⟨l, h1, fun i v hi hv => h2 i v ?_ hv⟩
  have : ∀ (q : List (Nat × Value)), cf_lk q i = some v → (i, v) ∈ q := by
    intro q
    induction q with
    | nil => intro e; cases e
    | cons a t ih =>
      obtain ⟨j, w⟩ := a
      intro e
      unfold cf_lk at e
      cases hb : Nat.beq j i with
      | true =>
        rw [hb] at e
        have : j = i := Nat.eq_of_beq_eq_true hb
        subst this
        cases e
        exact List.mem_cons_self
      | false =>
        rw [hb] at e
        exact List.mem_cons_of_mem _ (ih e)
  exact hs (i, v) (this lv' hi)
def cf_nl (lv : List (Nat × Value)) (i : Nat) : Bool := match i with
  | 0 => true
  | j + 1 => match cf_lk lv j with
    | some (.long _) => false
    | some (.double _) => false
    | _ => true
theorem cf_tr_cat (ad : Nat → Nat) (v : Value) : (cf_tr ad v).category = v.category := by cases v <;> rfl
theorem cf_L.st1 {ad : Nat → Nat} {ls' : Array Slot} {nL : Nat} {lv l : List (Nat × Value)} {i : Nat} {v : Value} (hn : cf_nl lv i = true) (h2 : ∀ i v, cf_lk lv i = some v → v ≠ .null → (i, cf_tr ad v) ∈ l) (h' : lv_has ls' nL ((i, cf_tr ad v) :: l.filter (fun q => !(q.1 == i) && !(q.1 + 1 == i && q.2.category == 2)))) : cf_L ad ls' nL ((i, v) :: lv) := by
  refine ⟨_, h', fun j w hj hw => ?_⟩
  unfold cf_lk at hj
  cases hb : Nat.beq i j with
  | true =>
    rw [hb] at hj
    have : i = j := Nat.eq_of_beq_eq_true hb
    subst this
    cases hj
    exact List.mem_cons_self
  | false =>
    rw [hb] at hj
    have hne : j ≠ i := fun e => by subst e; simp at hb
    refine List.mem_cons_of_mem _ (List.mem_filter.mpr ⟨h2 j w hj hw, ?_⟩)
    simp only [Bool.and_eq_true, Bool.not_eq_true', beq_eq_false_iff_ne, Bool.and_eq_false_iff]
    refine ⟨hne, ?_⟩
    by_cases e : j + 1 = i
    · right
      subst e
      rw [cf_tr_cat]
      have hj : cf_lk lv j = some w := hj
      unfold cf_nl at hn
      simp only [hj] at hn
      cases w <;> simp_all [Value.category]
    · left; exact e
theorem cf_L.st2 {ad : Nat → Nat} {ls' : Array Slot} {nL : Nat} {lv l : List (Nat × Value)} {i : Nat} {v : Value} (hn : cf_nl lv i = true) (h2 : ∀ i v, cf_lk lv i = some v → v ≠ .null → (i, cf_tr ad v) ∈ l) (h' : lv_has ls' nL ((i, cf_tr ad v) :: l.filter (fun q => !(q.1 == i) && (!(q.1 == i + 1) && !(q.1 + 1 == i && q.2.category == 2))))) : cf_L ad ls' nL ((i, v) :: (i + 1, .null) :: lv) := by
  refine ⟨_, h', fun j w hj hw => ?_⟩
  unfold cf_lk at hj
  cases hb : Nat.beq i j with
  | true =>
    rw [hb] at hj
    have : i = j := Nat.eq_of_beq_eq_true hb
    subst this
    cases hj
    exact List.mem_cons_self
  | false =>
    rw [hb] at hj
    have hne : j ≠ i := fun e => by subst e; simp at hb
    have hj2 : cf_lk ((i + 1, .null) :: lv) j = some w := hj
    unfold cf_lk at hj2
    cases hc : Nat.beq (i + 1) j with
    | true =>
      rw [hc] at hj2
      cases hj2
      exact absurd rfl hw
    | false =>
      rw [hc] at hj2
      have hne2 : j ≠ i + 1 := fun e => by subst e; simp at hc
      refine List.mem_cons_of_mem _ (List.mem_filter.mpr ⟨h2 j w hj2 hw, ?_⟩)
      simp only [Bool.and_eq_true, Bool.not_eq_true', beq_eq_false_iff_ne, Bool.and_eq_false_iff]
      refine ⟨hne, hne2, ?_⟩
      by_cases e : j + 1 = i
      · right
        subst e
        rw [cf_tr_cat]
        have hj3 : cf_lk lv j = some w := hj2
        unfold cf_nl at hn
        simp only [hj3] at hn
        cases w <;> simp_all [Value.category]
      · left; exact e
/-! rows: a locals' list may be changed for one that says less -/
theorem rp_lv {M : cf_M} {pc : Nat} {lv : List (Nat × Value)} {st : List Value} {h : cf_H} {P : Option Value → cf_H → Prop} (lv' : List (Nat × Value)) (hs : lv'.map (fun q => cf_lk lv q.1) = lv'.map (fun q => some q.2)) (k : RP M pc lv' st h P) : RP M pc lv st h P := by
  intro g p l e s m args below meth c C H locs ls hP hS hL
  refine k g p l e s m args below meth c C H locs ls hP hS (hL.sub fun q hq => ?_)
  obtain ⟨n, hn⟩ := List.getElem?_of_mem hq
  have := congrArg (fun z => z[n]?) hs
  simp only [List.getElem?_map, hn, Option.map_some] at this
  exact Option.some.inj this
theorem rp_mono {M : cf_M} {pc : Nat} {lv : List (Nat × Value)} {st : List Value} {h : cf_H} {P P' : Option Value → cf_H → Prop} (hm : ∀ r h, P r h → P' r h) (k : RP M pc lv st h P) : RP M pc lv st h P' := by
  intro g p l e s m args below meth c C H locs ls hP hS hL T hT X
  obtain ⟨t, h1, o, h2, h3, ⟨⟨r, h', e1, e2, e3⟩, e4⟩, h5⟩ := k g p l e s m args below meth c C H locs ls hP hS hL T hT X
  exact ⟨t, h1, o, h2, h3, ⟨⟨r, h', e1, hm r h' e2, e3⟩, e4⟩, h5⟩

theorem rp_iadd {M : cf_M} {pc pc' : Nat} {lv : List (Nat × Value)} {st : List Value} {h : cf_H} {P : Option Value → cf_H → Prop} {x y : Int32} (hd : cf_D M pc (.iadd) 1 pc') (k : RP M pc' lv (.int (x + y) :: st) h P) : RP M pc lv (.int y :: .int x :: st) h P := by
  intro g p l e s m args below meth c C H locs ls hP hS hL
  obtain ⟨hd, rfl⟩ := hd
  obtain ⟨hx, hb, hml, hr, hown, hts, hlk, hK, hCK, hi⟩ := C
  exact lv_iadd hx hb hd (k g p l e s m args below meth c ⟨hx, hb, hml, hr, hown, hts, hlk, hK, hCK, hi⟩ H locs ls hP hS hL)
theorem rp_isub {M : cf_M} {pc pc' : Nat} {lv : List (Nat × Value)} {st : List Value} {h : cf_H} {P : Option Value → cf_H → Prop} {x y : Int32} (hd : cf_D M pc (.isub) 1 pc') (k : RP M pc' lv (.int (x - y) :: st) h P) : RP M pc lv (.int y :: .int x :: st) h P := by
  intro g p l e s m args below meth c C H locs ls hP hS hL
  obtain ⟨hd, rfl⟩ := hd
  obtain ⟨hx, hb, hml, hr, hown, hts, hlk, hK, hCK, hi⟩ := C
  exact lv_isub hx hb hd (k g p l e s m args below meth c ⟨hx, hb, hml, hr, hown, hts, hlk, hK, hCK, hi⟩ H locs ls hP hS hL)
theorem rp_imul {M : cf_M} {pc pc' : Nat} {lv : List (Nat × Value)} {st : List Value} {h : cf_H} {P : Option Value → cf_H → Prop} {x y : Int32} (hd : cf_D M pc (.imul) 1 pc') (k : RP M pc' lv (.int (x * y) :: st) h P) : RP M pc lv (.int y :: .int x :: st) h P := by
  intro g p l e s m args below meth c C H locs ls hP hS hL
  obtain ⟨hd, rfl⟩ := hd
  obtain ⟨hx, hb, hml, hr, hown, hts, hlk, hK, hCK, hi⟩ := C
  exact lv_imul hx hb hd (k g p l e s m args below meth c ⟨hx, hb, hml, hr, hown, hts, hlk, hK, hCK, hi⟩ H locs ls hP hS hL)
theorem rp_iand {M : cf_M} {pc pc' : Nat} {lv : List (Nat × Value)} {st : List Value} {h : cf_H} {P : Option Value → cf_H → Prop} {x y : Int32} (hd : cf_D M pc (.iand) 1 pc') (k : RP M pc' lv (.int (x &&& y) :: st) h P) : RP M pc lv (.int y :: .int x :: st) h P := by
  intro g p l e s m args below meth c C H locs ls hP hS hL
  obtain ⟨hd, rfl⟩ := hd
  obtain ⟨hx, hb, hml, hr, hown, hts, hlk, hK, hCK, hi⟩ := C
  exact lv_iand hx hb hd (k g p l e s m args below meth c ⟨hx, hb, hml, hr, hown, hts, hlk, hK, hCK, hi⟩ H locs ls hP hS hL)
theorem rp_ior {M : cf_M} {pc pc' : Nat} {lv : List (Nat × Value)} {st : List Value} {h : cf_H} {P : Option Value → cf_H → Prop} {x y : Int32} (hd : cf_D M pc (.ior) 1 pc') (k : RP M pc' lv (.int (x ||| y) :: st) h P) : RP M pc lv (.int y :: .int x :: st) h P := by
  intro g p l e s m args below meth c C H locs ls hP hS hL
  obtain ⟨hd, rfl⟩ := hd
  obtain ⟨hx, hb, hml, hr, hown, hts, hlk, hK, hCK, hi⟩ := C
  exact lv_ior hx hb hd (k g p l e s m args below meth c ⟨hx, hb, hml, hr, hown, hts, hlk, hK, hCK, hi⟩ H locs ls hP hS hL)
theorem rp_ixor {M : cf_M} {pc pc' : Nat} {lv : List (Nat × Value)} {st : List Value} {h : cf_H} {P : Option Value → cf_H → Prop} {x y : Int32} (hd : cf_D M pc (.ixor) 1 pc') (k : RP M pc' lv (.int (x ^^^ y) :: st) h P) : RP M pc lv (.int y :: .int x :: st) h P := by
  intro g p l e s m args below meth c C H locs ls hP hS hL
  obtain ⟨hd, rfl⟩ := hd
  obtain ⟨hx, hb, hml, hr, hown, hts, hlk, hK, hCK, hi⟩ := C
  exact lv_ixor hx hb hd (k g p l e s m args below meth c ⟨hx, hb, hml, hr, hown, hts, hlk, hK, hCK, hi⟩ H locs ls hP hS hL)
theorem rp_ishl {M : cf_M} {pc pc' : Nat} {lv : List (Nat × Value)} {st : List Value} {h : cf_H} {P : Option Value → cf_H → Prop} {x y : Int32} (hd : cf_D M pc (.ishl) 1 pc') (k : RP M pc' lv (.int (x <<< (y &&& 31)) :: st) h P) : RP M pc lv (.int y :: .int x :: st) h P := by
  intro g p l e s m args below meth c C H locs ls hP hS hL
  obtain ⟨hd, rfl⟩ := hd
  obtain ⟨hx, hb, hml, hr, hown, hts, hlk, hK, hCK, hi⟩ := C
  exact lv_ishl hx hb hd (k g p l e s m args below meth c ⟨hx, hb, hml, hr, hown, hts, hlk, hK, hCK, hi⟩ H locs ls hP hS hL)
theorem rp_ishr {M : cf_M} {pc pc' : Nat} {lv : List (Nat × Value)} {st : List Value} {h : cf_H} {P : Option Value → cf_H → Prop} {x y : Int32} (hd : cf_D M pc (.ishr) 1 pc') (k : RP M pc' lv (.int (x >>> (y &&& 31)) :: st) h P) : RP M pc lv (.int y :: .int x :: st) h P := by
  intro g p l e s m args below meth c C H locs ls hP hS hL
  obtain ⟨hd, rfl⟩ := hd
  obtain ⟨hx, hb, hml, hr, hown, hts, hlk, hK, hCK, hi⟩ := C
  exact lv_ishr hx hb hd (k g p l e s m args below meth c ⟨hx, hb, hml, hr, hown, hts, hlk, hK, hCK, hi⟩ H locs ls hP hS hL)
theorem rp_iushr {M : cf_M} {pc pc' : Nat} {lv : List (Nat × Value)} {st : List Value} {h : cf_H} {P : Option Value → cf_H → Prop} {x y : Int32} (hd : cf_D M pc (.iushr) 1 pc') (k : RP M pc' lv (.int (x.toUInt32 >>> (y.toUInt32 &&& Int32.toUInt32 31)).toInt32 :: st) h P) : RP M pc lv (.int y :: .int x :: st) h P := by
  intro g p l e s m args below meth c C H locs ls hP hS hL
  obtain ⟨hd, rfl⟩ := hd
  obtain ⟨hx, hb, hml, hr, hown, hts, hlk, hK, hCK, hi⟩ := C
  exact lv_iushr hx hb hd rfl (k g p l e s m args below meth c ⟨hx, hb, hml, hr, hown, hts, hlk, hK, hCK, hi⟩ H locs ls hP hS hL)
theorem rp_idiv {M : cf_M} {pc pc' : Nat} {lv : List (Nat × Value)} {st : List Value} {h : cf_H} {P : Option Value → cf_H → Prop} {x y : Int32} (hd : cf_D M pc (.idiv) 1 pc') (hne : ¬ y = 0) (k : RP M pc' lv (.int (x / y) :: st) h P) : RP M pc lv (.int y :: .int x :: st) h P := by
  intro g p l e s m args below meth c C H locs ls hP hS hL
  obtain ⟨hd, rfl⟩ := hd
  obtain ⟨hx, hb, hml, hr, hown, hts, hlk, hK, hCK, hi⟩ := C
  exact lv_idiv hx hb hd hne (k g p l e s m args below meth c ⟨hx, hb, hml, hr, hown, hts, hlk, hK, hCK, hi⟩ H locs ls hP hS hL)
theorem rp_irem {M : cf_M} {pc pc' : Nat} {lv : List (Nat × Value)} {st : List Value} {h : cf_H} {P : Option Value → cf_H → Prop} {x y : Int32} (hd : cf_D M pc (.irem) 1 pc') (hne : ¬ y = 0) (k : RP M pc' lv (.int (x - x / y * y) :: st) h P) : RP M pc lv (.int y :: .int x :: st) h P := by
  intro g p l e s m args below meth c C H locs ls hP hS hL
  obtain ⟨hd, rfl⟩ := hd
  obtain ⟨hx, hb, hml, hr, hown, hts, hlk, hK, hCK, hi⟩ := C
  exact lv_irem hx hb hd hne (k g p l e s m args below meth c ⟨hx, hb, hml, hr, hown, hts, hlk, hK, hCK, hi⟩ H locs ls hP hS hL)
theorem rp_ineg {M : cf_M} {pc pc' : Nat} {lv : List (Nat × Value)} {st : List Value} {h : cf_H} {P : Option Value → cf_H → Prop} {x : Int32} (hd : cf_D M pc (.ineg) 1 pc') (k : RP M pc' lv (.int (-x) :: st) h P) : RP M pc lv (.int x :: st) h P := by
  intro g p l e s m args below meth c C H locs ls hP hS hL
  obtain ⟨hd, rfl⟩ := hd
  obtain ⟨hx, hb, hml, hr, hown, hts, hlk, hK, hCK, hi⟩ := C
  exact lv_ineg hx hb hd (k g p l e s m args below meth c ⟨hx, hb, hml, hr, hown, hts, hlk, hK, hCK, hi⟩ H locs ls hP hS hL)
theorem rp_ladd {M : cf_M} {pc pc' : Nat} {lv : List (Nat × Value)} {st : List Value} {h : cf_H} {P : Option Value → cf_H → Prop} {x y : Int64} (hd : cf_D M pc (.ladd) 1 pc') (k : RP M pc' lv (.long (x + y) :: st) h P) : RP M pc lv (.long y :: .long x :: st) h P := by
  intro g p l e s m args below meth c C H locs ls hP hS hL
  obtain ⟨hd, rfl⟩ := hd
  obtain ⟨hx, hb, hml, hr, hown, hts, hlk, hK, hCK, hi⟩ := C
  exact lv_ladd hx hb hd (k g p l e s m args below meth c ⟨hx, hb, hml, hr, hown, hts, hlk, hK, hCK, hi⟩ H locs ls hP hS hL)
theorem rp_lsub {M : cf_M} {pc pc' : Nat} {lv : List (Nat × Value)} {st : List Value} {h : cf_H} {P : Option Value → cf_H → Prop} {x y : Int64} (hd : cf_D M pc (.lsub) 1 pc') (k : RP M pc' lv (.long (x - y) :: st) h P) : RP M pc lv (.long y :: .long x :: st) h P := by
  intro g p l e s m args below meth c C H locs ls hP hS hL
  obtain ⟨hd, rfl⟩ := hd
  obtain ⟨hx, hb, hml, hr, hown, hts, hlk, hK, hCK, hi⟩ := C
  exact lv_lsub hx hb hd (k g p l e s m args below meth c ⟨hx, hb, hml, hr, hown, hts, hlk, hK, hCK, hi⟩ H locs ls hP hS hL)
theorem rp_lmul {M : cf_M} {pc pc' : Nat} {lv : List (Nat × Value)} {st : List Value} {h : cf_H} {P : Option Value → cf_H → Prop} {x y : Int64} (hd : cf_D M pc (.lmul) 1 pc') (k : RP M pc' lv (.long (x * y) :: st) h P) : RP M pc lv (.long y :: .long x :: st) h P := by
  intro g p l e s m args below meth c C H locs ls hP hS hL
  obtain ⟨hd, rfl⟩ := hd
  obtain ⟨hx, hb, hml, hr, hown, hts, hlk, hK, hCK, hi⟩ := C
  exact lv_lmul hx hb hd (k g p l e s m args below meth c ⟨hx, hb, hml, hr, hown, hts, hlk, hK, hCK, hi⟩ H locs ls hP hS hL)
theorem rp_land {M : cf_M} {pc pc' : Nat} {lv : List (Nat × Value)} {st : List Value} {h : cf_H} {P : Option Value → cf_H → Prop} {x y : Int64} (hd : cf_D M pc (.land) 1 pc') (k : RP M pc' lv (.long (x &&& y) :: st) h P) : RP M pc lv (.long y :: .long x :: st) h P := by
  intro g p l e s m args below meth c C H locs ls hP hS hL
  obtain ⟨hd, rfl⟩ := hd
  obtain ⟨hx, hb, hml, hr, hown, hts, hlk, hK, hCK, hi⟩ := C
  exact lv_land hx hb hd (k g p l e s m args below meth c ⟨hx, hb, hml, hr, hown, hts, hlk, hK, hCK, hi⟩ H locs ls hP hS hL)
theorem rp_lor {M : cf_M} {pc pc' : Nat} {lv : List (Nat × Value)} {st : List Value} {h : cf_H} {P : Option Value → cf_H → Prop} {x y : Int64} (hd : cf_D M pc (.lor) 1 pc') (k : RP M pc' lv (.long (x ||| y) :: st) h P) : RP M pc lv (.long y :: .long x :: st) h P := by
  intro g p l e s m args below meth c C H locs ls hP hS hL
  obtain ⟨hd, rfl⟩ := hd
  obtain ⟨hx, hb, hml, hr, hown, hts, hlk, hK, hCK, hi⟩ := C
  exact lv_lor hx hb hd (k g p l e s m args below meth c ⟨hx, hb, hml, hr, hown, hts, hlk, hK, hCK, hi⟩ H locs ls hP hS hL)
theorem rp_ldiv {M : cf_M} {pc pc' : Nat} {lv : List (Nat × Value)} {st : List Value} {h : cf_H} {P : Option Value → cf_H → Prop} {x y : Int64} (hd : cf_D M pc (.ldiv) 1 pc') (hne : ¬ y = 0) (k : RP M pc' lv (.long (x / y) :: st) h P) : RP M pc lv (.long y :: .long x :: st) h P := by
  intro g p l e s m args below meth c C H locs ls hP hS hL
  obtain ⟨hd, rfl⟩ := hd
  obtain ⟨hx, hb, hml, hr, hown, hts, hlk, hK, hCK, hi⟩ := C
  exact lv_ldiv hx hb hd hne (k g p l e s m args below meth c ⟨hx, hb, hml, hr, hown, hts, hlk, hK, hCK, hi⟩ H locs ls hP hS hL)
theorem rp_lrem {M : cf_M} {pc pc' : Nat} {lv : List (Nat × Value)} {st : List Value} {h : cf_H} {P : Option Value → cf_H → Prop} {x y : Int64} (hd : cf_D M pc (.lrem) 1 pc') (hne : ¬ y = 0) (k : RP M pc' lv (.long (x - x / y * y) :: st) h P) : RP M pc lv (.long y :: .long x :: st) h P := by
  intro g p l e s m args below meth c C H locs ls hP hS hL
  obtain ⟨hd, rfl⟩ := hd
  obtain ⟨hx, hb, hml, hr, hown, hts, hlk, hK, hCK, hi⟩ := C
  exact lv_lrem hx hb hd hne (k g p l e s m args below meth c ⟨hx, hb, hml, hr, hown, hts, hlk, hK, hCK, hi⟩ H locs ls hP hS hL)
theorem rp_lneg {M : cf_M} {pc pc' : Nat} {lv : List (Nat × Value)} {st : List Value} {h : cf_H} {P : Option Value → cf_H → Prop} {x : Int64} (hd : cf_D M pc (.lneg) 1 pc') (k : RP M pc' lv (.long (-x) :: st) h P) : RP M pc lv (.long x :: st) h P := by
  intro g p l e s m args below meth c C H locs ls hP hS hL
  obtain ⟨hd, rfl⟩ := hd
  obtain ⟨hx, hb, hml, hr, hown, hts, hlk, hK, hCK, hi⟩ := C
  exact lv_lneg hx hb hd (k g p l e s m args below meth c ⟨hx, hb, hml, hr, hown, hts, hlk, hK, hCK, hi⟩ H locs ls hP hS hL)
theorem rp_lshl {M : cf_M} {pc pc' : Nat} {lv : List (Nat × Value)} {st : List Value} {h : cf_H} {P : Option Value → cf_H → Prop} {x : Int64} {y : Int32} (hd : cf_D M pc (.lshl) 1 pc') (k : RP M pc' lv (.long (x <<< (y.toInt64 &&& 63)) :: st) h P) : RP M pc lv (.int y :: .long x :: st) h P := by
  intro g p l e s m args below meth c C H locs ls hP hS hL
  obtain ⟨hd, rfl⟩ := hd
  obtain ⟨hx, hb, hml, hr, hown, hts, hlk, hK, hCK, hi⟩ := C
  exact lv_lshl hx hb hd rfl (k g p l e s m args below meth c ⟨hx, hb, hml, hr, hown, hts, hlk, hK, hCK, hi⟩ H locs ls hP hS hL)
theorem rp_lcmp {M : cf_M} {pc pc' : Nat} {lv : List (Nat × Value)} {st : List Value} {h : cf_H} {P : Option Value → cf_H → Prop} {x y : Int64} (hd : cf_D M pc (.lcmp) 1 pc') (k : RP M pc' lv (.int (lg_cmp x y) :: st) h P) : RP M pc lv (.long y :: .long x :: st) h P := by
  intro g p l e s m args below meth c C H locs ls hP hS hL
  obtain ⟨hd, rfl⟩ := hd
  obtain ⟨hx, hb, hml, hr, hown, hts, hlk, hK, hCK, hi⟩ := C
  exact W.lcmp hx hb hd (k g p l e s m args below meth c ⟨hx, hb, hml, hr, hown, hts, hlk, hK, hCK, hi⟩ H locs ls hP hS hL)
theorem rp_i2l {M : cf_M} {pc pc' : Nat} {lv : List (Nat × Value)} {st : List Value} {h : cf_H} {P : Option Value → cf_H → Prop} {x : Int32} (hd : cf_D M pc (.i2l) 1 pc') (k : RP M pc' lv (.long x.toInt64 :: st) h P) : RP M pc lv (.int x :: st) h P := by
  intro g p l e s m args below meth c C H locs ls hP hS hL
  obtain ⟨hd, rfl⟩ := hd
  obtain ⟨hx, hb, hml, hr, hown, hts, hlk, hK, hCK, hi⟩ := C
  exact lv_i2l hx hb hd rfl (k g p l e s m args below meth c ⟨hx, hb, hml, hr, hown, hts, hlk, hK, hCK, hi⟩ H locs ls hP hS hL)
theorem rp_l2i {M : cf_M} {pc pc' : Nat} {lv : List (Nat × Value)} {st : List Value} {h : cf_H} {P : Option Value → cf_H → Prop} {x : Int64} (hd : cf_D M pc (.l2i) 1 pc') (k : RP M pc' lv (.int x.toInt32 :: st) h P) : RP M pc lv (.long x :: st) h P := by
  intro g p l e s m args below meth c C H locs ls hP hS hL
  obtain ⟨hd, rfl⟩ := hd
  obtain ⟨hx, hb, hml, hr, hown, hts, hlk, hK, hCK, hi⟩ := C
  exact lv_l2i hx hb hd rfl (k g p l e s m args below meth c ⟨hx, hb, hml, hr, hown, hts, hlk, hK, hCK, hi⟩ H locs ls hP hS hL)
theorem rp_i2b {M : cf_M} {pc pc' : Nat} {lv : List (Nat × Value)} {st : List Value} {h : cf_H} {P : Option Value → cf_H → Prop} {x : Int32} (hd : cf_D M pc (.i2b) 1 pc') (k : RP M pc' lv (.int x.toInt8.toInt32 :: st) h P) : RP M pc lv (.int x :: st) h P := by
  intro g p l e s m args below meth c C H locs ls hP hS hL
  obtain ⟨hd, rfl⟩ := hd
  obtain ⟨hx, hb, hml, hr, hown, hts, hlk, hK, hCK, hi⟩ := C
  exact lv_i2b hx hb hd rfl (k g p l e s m args below meth c ⟨hx, hb, hml, hr, hown, hts, hlk, hK, hCK, hi⟩ H locs ls hP hS hL)
theorem rp_i2c {M : cf_M} {pc pc' : Nat} {lv : List (Nat × Value)} {st : List Value} {h : cf_H} {P : Option Value → cf_H → Prop} {x : Int32} (hd : cf_D M pc (.i2c) 1 pc') (k : RP M pc' lv (.int (x.toUInt32 % 65536).toInt32 :: st) h P) : RP M pc lv (.int x :: st) h P := by
  intro g p l e s m args below meth c C H locs ls hP hS hL
  obtain ⟨hd, rfl⟩ := hd
  obtain ⟨hx, hb, hml, hr, hown, hts, hlk, hK, hCK, hi⟩ := C
  exact lv_i2c hx hb hd rfl (k g p l e s m args below meth c ⟨hx, hb, hml, hr, hown, hts, hlk, hK, hCK, hi⟩ H locs ls hP hS hL)
theorem rp_dup {M : cf_M} {pc pc' : Nat} {lv : List (Nat × Value)} {st : List Value} {h : cf_H} {P : Option Value → cf_H → Prop} {v : Value} (hd : cf_D M pc (.dup) 1 pc') (hv : v.category = 1) (k : RP M pc' lv (v :: v :: st) h P) : RP M pc lv (v :: st) h P := by
  intro g p l e s m args below meth c C H locs ls hP hS hL
  obtain ⟨hd, rfl⟩ := hd
  obtain ⟨hx, hb, hml, hr, hown, hts, hlk, hK, hCK, hi⟩ := C
  exact lv_dup hx hb hd (by rw [cf_tr_cat]; exact hv) (k g p l e s m args below meth c ⟨hx, hb, hml, hr, hown, hts, hlk, hK, hCK, hi⟩ H locs ls hP hS hL)
theorem rp_pop {M : cf_M} {pc pc' : Nat} {lv : List (Nat × Value)} {st : List Value} {h : cf_H} {P : Option Value → cf_H → Prop} {v : Value} (hd : cf_D M pc (.pop) 1 pc') (hv : v.category = 1) (k : RP M pc' lv (st) h P) : RP M pc lv (v :: st) h P := by
  intro g p l e s m args below meth c C H locs ls hP hS hL
  obtain ⟨hd, rfl⟩ := hd
  obtain ⟨hx, hb, hml, hr, hown, hts, hlk, hK, hCK, hi⟩ := C
  exact lv_pop hx hb hd (by rw [cf_tr_cat]; exact hv) (k g p l e s m args below meth c ⟨hx, hb, hml, hr, hown, hts, hlk, hK, hCK, hi⟩ H locs ls hP hS hL)
theorem rp_iconst {M : cf_M} {pc pc' : Nat} {lv : List (Nat × Value)} {st : List Value} {h : cf_H} {P : Option Value → cf_H → Prop} {n : Int} {v : Int32} (hd : cf_D M pc (.iconst n) 1 pc') (hv : Int32.ofInt n = v) (k : RP M pc' lv (.int v :: st) h P) : RP M pc lv (st) h P := by
  intro g p l e s m args below meth c C H locs ls hP hS hL
  obtain ⟨hd, rfl⟩ := hd
  obtain ⟨hx, hb, hml, hr, hown, hts, hlk, hK, hCK, hi⟩ := C
  exact lv_iconst hx hb hd hv (k g p l e s m args below meth c ⟨hx, hb, hml, hr, hown, hts, hlk, hK, hCK, hi⟩ H locs ls hP hS hL)
theorem rp_bipush {M : cf_M} {pc pc' : Nat} {lv : List (Nat × Value)} {st : List Value} {h : cf_H} {P : Option Value → cf_H → Prop} {n : Int} {v : Int32} (hd : cf_D M pc (.bipush n) 2 pc') (hv : (Int8.ofInt n).toInt32 = v) (k : RP M pc' lv (.int v :: st) h P) : RP M pc lv (st) h P := by
  intro g p l e s m args below meth c C H locs ls hP hS hL
  obtain ⟨hd, rfl⟩ := hd
  obtain ⟨hx, hb, hml, hr, hown, hts, hlk, hK, hCK, hi⟩ := C
  exact lv_bipush hx hb hd hv (k g p l e s m args below meth c ⟨hx, hb, hml, hr, hown, hts, hlk, hK, hCK, hi⟩ H locs ls hP hS hL)
theorem rp_sipush {M : cf_M} {pc pc' : Nat} {lv : List (Nat × Value)} {st : List Value} {h : cf_H} {P : Option Value → cf_H → Prop} {n : Int} {v : Int32} (hd : cf_D M pc (.sipush n) 3 pc') (hv : (Int16.ofInt n).toInt32 = v) (k : RP M pc' lv (.int v :: st) h P) : RP M pc lv (st) h P := by
  intro g p l e s m args below meth c C H locs ls hP hS hL
  obtain ⟨hd, rfl⟩ := hd
  obtain ⟨hx, hb, hml, hr, hown, hts, hlk, hK, hCK, hi⟩ := C
  exact lv_sipush hx hb hd hv (k g p l e s m args below meth c ⟨hx, hb, hml, hr, hown, hts, hlk, hK, hCK, hi⟩ H locs ls hP hS hL)
theorem rp_lconst {M : cf_M} {pc pc' : Nat} {lv : List (Nat × Value)} {st : List Value} {h : cf_H} {P : Option Value → cf_H → Prop} {n : Fin 2} {v : Int64} (hd : cf_D M pc (.lconst n) 1 pc') (hv : Int64.ofNat (n : Nat) = v) (k : RP M pc' lv (.long v :: st) h P) : RP M pc lv (st) h P := by
  intro g p l e s m args below meth c C H locs ls hP hS hL
  obtain ⟨hd, rfl⟩ := hd
  obtain ⟨hx, hb, hml, hr, hown, hts, hlk, hK, hCK, hi⟩ := C
  exact lv_lconst hx hb hd hv (k g p l e s m args below meth c ⟨hx, hb, hml, hr, hown, hts, hlk, hK, hCK, hi⟩ H locs ls hP hS hL)
theorem rp_ldc {M : cf_M} {pc pc' : Nat} {lv : List (Nat × Value)} {st : List Value} {h : cf_H} {P : Option Value → cf_H → Prop} {idx : Nat} {v : Int32} (hd : cf_D M pc (.ldc idx) 2 pc') (hw : Cond.constant (cf_own M) idx v ∈ cf_T) (k : RP M pc' lv (.int v :: st) h P) : RP M pc lv (st) h P := by
  intro g p l e s m args below meth c C H locs ls hP hS hL
  obtain ⟨hd, rfl⟩ := hd
  obtain ⟨hx, hb, hml, hr, hown, hts, hlk, hK, hCK, hi⟩ := C
  exact lv_ldc hx hb hown (hts _ hw) hd (k g p l e s m args below meth c ⟨hx, hb, hml, hr, hown, hts, hlk, hK, hCK, hi⟩ H locs ls hP hS hL)
theorem rp_ldc2 {M : cf_M} {pc pc' : Nat} {lv : List (Nat × Value)} {st : List Value} {h : cf_H} {P : Option Value → cf_H → Prop} {idx : Nat} {v : Int64} (hd : cf_D M pc (.ldc2_w idx) 3 pc') (hw : Cond.constantLong (cf_own M) idx v ∈ cf_T) (k : RP M pc' lv (.long v :: st) h P) : RP M pc lv (st) h P := by
  intro g p l e s m args below meth c C H locs ls hP hS hL
  obtain ⟨hd, rfl⟩ := hd
  obtain ⟨hx, hb, hml, hr, hown, hts, hlk, hK, hCK, hi⟩ := C
  exact lv_ldc2 hx hb hown (hts _ hw) hd (k g p l e s m args below meth c ⟨hx, hb, hml, hr, hown, hts, hlk, hK, hCK, hi⟩ H locs ls hP hS hL)
theorem rp_iload {M : cf_M} {pc pc' : Nat} {lv : List (Nat × Value)} {st : List Value} {h : cf_H} {P : Option Value → cf_H → Prop} {i : Nat} {x : Int32} (hd : cf_D M pc (.iload i) 2 pc') (hl : cf_lk lv i = some (.int x)) (k : RP M pc' lv (.int x :: st) h P) : RP M pc lv (st) h P := by
  intro g p l e s m args below meth c C H locs ls hP hS hL
  obtain ⟨hd, rfl⟩ := hd
  obtain ⟨hx, hb, hml, hr, hown, hts, hlk, hK, hCK, hi⟩ := C
  exact lv_iload hx hb hd (hL.at hl (by intro e; cases e)) (k g p l e s m args below meth c ⟨hx, hb, hml, hr, hown, hts, hlk, hK, hCK, hi⟩ H locs ls hP hS hL)
theorem rp_iload_n {M : cf_M} {pc pc' : Nat} {lv : List (Nat × Value)} {st : List Value} {h : cf_H} {P : Option Value → cf_H → Prop} {j : Fin 4} {i : Nat} {x : Int32} (hd : cf_D M pc (.iload_n j) 1 pc') (hj : (j : Nat) = i) (hl : cf_lk lv i = some (.int x)) (k : RP M pc' lv (.int x :: st) h P) : RP M pc lv (st) h P := by
  intro g p l e s m args below meth c C H locs ls hP hS hL
  obtain ⟨hd, rfl⟩ := hd
  obtain ⟨hx, hb, hml, hr, hown, hts, hlk, hK, hCK, hi⟩ := C
  exact lv_iload_n hx hb hd hj (hL.at hl (by intro e; cases e)) (k g p l e s m args below meth c ⟨hx, hb, hml, hr, hown, hts, hlk, hK, hCK, hi⟩ H locs ls hP hS hL)
theorem rp_lload {M : cf_M} {pc pc' : Nat} {lv : List (Nat × Value)} {st : List Value} {h : cf_H} {P : Option Value → cf_H → Prop} {i : Nat} {x : Int64} (hd : cf_D M pc (.lload i) 2 pc') (hl : cf_lk lv i = some (.long x)) (k : RP M pc' lv (.long x :: st) h P) : RP M pc lv (st) h P := by
  intro g p l e s m args below meth c C H locs ls hP hS hL
  obtain ⟨hd, rfl⟩ := hd
  obtain ⟨hx, hb, hml, hr, hown, hts, hlk, hK, hCK, hi⟩ := C
  exact lv_lload hx hb hd (hL.at hl (by intro e; cases e)) (k g p l e s m args below meth c ⟨hx, hb, hml, hr, hown, hts, hlk, hK, hCK, hi⟩ H locs ls hP hS hL)
theorem rp_lload_n {M : cf_M} {pc pc' : Nat} {lv : List (Nat × Value)} {st : List Value} {h : cf_H} {P : Option Value → cf_H → Prop} {j : Fin 4} {i : Nat} {x : Int64} (hd : cf_D M pc (.lload_n j) 1 pc') (hj : (j : Nat) = i) (hl : cf_lk lv i = some (.long x)) (k : RP M pc' lv (.long x :: st) h P) : RP M pc lv (st) h P := by
  intro g p l e s m args below meth c C H locs ls hP hS hL
  obtain ⟨hd, rfl⟩ := hd
  obtain ⟨hx, hb, hml, hr, hown, hts, hlk, hK, hCK, hi⟩ := C
  exact lv_lload_n hx hb hd hj (hL.at hl (by intro e; cases e)) (k g p l e s m args below meth c ⟨hx, hb, hml, hr, hown, hts, hlk, hK, hCK, hi⟩ H locs ls hP hS hL)
theorem rp_aload {M : cf_M} {pc pc' : Nat} {lv : List (Nat × Value)} {st : List Value} {h : cf_H} {P : Option Value → cf_H → Prop} {i : Nat} {x : Nat} (hd : cf_D M pc (.aload i) 2 pc') (hl : cf_lk lv i = some (.ref x)) (k : RP M pc' lv (.ref x :: st) h P) : RP M pc lv (st) h P := by
  intro g p l e s m args below meth c C H locs ls hP hS hL
  obtain ⟨hd, rfl⟩ := hd
  obtain ⟨hx, hb, hml, hr, hown, hts, hlk, hK, hCK, hi⟩ := C
  exact lv_aload hx hb hd (hL.at hl (by intro e; cases e)) (k g p l e s m args below meth c ⟨hx, hb, hml, hr, hown, hts, hlk, hK, hCK, hi⟩ H locs ls hP hS hL)
theorem rp_aload_n {M : cf_M} {pc pc' : Nat} {lv : List (Nat × Value)} {st : List Value} {h : cf_H} {P : Option Value → cf_H → Prop} {j : Fin 4} {i : Nat} {x : Nat} (hd : cf_D M pc (.aload_n j) 1 pc') (hj : (j : Nat) = i) (hl : cf_lk lv i = some (.ref x)) (k : RP M pc' lv (.ref x :: st) h P) : RP M pc lv (st) h P := by
  intro g p l e s m args below meth c C H locs ls hP hS hL
  obtain ⟨hd, rfl⟩ := hd
  obtain ⟨hx, hb, hml, hr, hown, hts, hlk, hK, hCK, hi⟩ := C
  exact lv_aload_n hx hb hd hj (hL.at hl (by intro e; cases e)) (k g p l e s m args below meth c ⟨hx, hb, hml, hr, hown, hts, hlk, hK, hCK, hi⟩ H locs ls hP hS hL)
theorem rp_istore {M : cf_M} {pc pc' : Nat} {lv : List (Nat × Value)} {st : List Value} {h : cf_H} {P : Option Value → cf_H → Prop} {i : Nat} {x : Int32} (hd : cf_D M pc (.istore i) 2 pc') (hn : cf_nl lv i = true) (hm : i < cf_mL M) (k : RP M pc' ((i, .int x) :: lv) st h P) : RP M pc lv (.int x :: st) h P := by
  intro g p l e s m args below meth c C H locs ls hP hS hL
  obtain ⟨hd, rfl⟩ := hd
  obtain ⟨hx, hb, hml, hr, hown, hts, hlk, hK, hCK, hi⟩ := C
  obtain ⟨l0, h1, h2⟩ := hL
  exact lv_istore hx hb hd h1 hm rfl (fun ls' h' => k g p l e s m args below meth c ⟨hx, hb, hml, hr, hown, hts, hlk, hK, hCK, hi⟩ H locs _ hP hS (cf_L.st1 (v := .int x) hn h2 h'))
theorem rp_istore_n {M : cf_M} {pc pc' : Nat} {lv : List (Nat × Value)} {st : List Value} {h : cf_H} {P : Option Value → cf_H → Prop} {j : Fin 4} {i : Nat} {x : Int32} (hd : cf_D M pc (.istore_n j) 1 pc') (hj : (j : Nat) = i) (hn : cf_nl lv i = true) (hm : i < cf_mL M) (k : RP M pc' ((i, .int x) :: lv) st h P) : RP M pc lv (.int x :: st) h P := by
  intro g p l e s m args below meth c C H locs ls hP hS hL
  obtain ⟨hd, rfl⟩ := hd
  obtain ⟨hx, hb, hml, hr, hown, hts, hlk, hK, hCK, hi⟩ := C
  obtain ⟨l0, h1, h2⟩ := hL
  exact lv_istore_n hx hb hd hj h1 hm rfl (fun ls' h' => k g p l e s m args below meth c ⟨hx, hb, hml, hr, hown, hts, hlk, hK, hCK, hi⟩ H locs _ hP hS (cf_L.st1 (v := .int x) hn h2 h'))
theorem rp_lstore {M : cf_M} {pc pc' : Nat} {lv : List (Nat × Value)} {st : List Value} {h : cf_H} {P : Option Value → cf_H → Prop} {i : Nat} {x : Int64} (hd : cf_D M pc (.lstore i) 2 pc') (hn : cf_nl lv i = true) (hm : i + 1 < cf_mL M) (k : RP M pc' ((i, .long x) :: (i + 1, .null) :: lv) st h P) : RP M pc lv (.long x :: st) h P := by
  intro g p l e s m args below meth c C H locs ls hP hS hL
  obtain ⟨hd, rfl⟩ := hd
  obtain ⟨hx, hb, hml, hr, hown, hts, hlk, hK, hCK, hi⟩ := C
  obtain ⟨l0, h1, h2⟩ := hL
  exact lv_lstore hx hb hd h1 hm rfl (fun ls' h' => k g p l e s m args below meth c ⟨hx, hb, hml, hr, hown, hts, hlk, hK, hCK, hi⟩ H locs _ hP hS (cf_L.st2 (v := .long x) hn h2 h'))
theorem rp_lstore_n {M : cf_M} {pc pc' : Nat} {lv : List (Nat × Value)} {st : List Value} {h : cf_H} {P : Option Value → cf_H → Prop} {j : Fin 4} {i : Nat} {x : Int64} (hd : cf_D M pc (.lstore_n j) 1 pc') (hj : (j : Nat) = i) (hn : cf_nl lv i = true) (hm : i + 1 < cf_mL M) (k : RP M pc' ((i, .long x) :: (i + 1, .null) :: lv) st h P) : RP M pc lv (.long x :: st) h P := by
  intro g p l e s m args below meth c C H locs ls hP hS hL
  obtain ⟨hd, rfl⟩ := hd
  obtain ⟨hx, hb, hml, hr, hown, hts, hlk, hK, hCK, hi⟩ := C
  obtain ⟨l0, h1, h2⟩ := hL
  exact lv_lstore_n hx hb hd hj h1 hm rfl (fun ls' h' => k g p l e s m args below meth c ⟨hx, hb, hml, hr, hown, hts, hlk, hK, hCK, hi⟩ H locs _ hP hS (cf_L.st2 (v := .long x) hn h2 h'))
theorem rp_astore {M : cf_M} {pc pc' : Nat} {lv : List (Nat × Value)} {st : List Value} {h : cf_H} {P : Option Value → cf_H → Prop} {i : Nat} {x : Nat} (hd : cf_D M pc (.astore i) 2 pc') (hn : cf_nl lv i = true) (hm : i < cf_mL M) (k : RP M pc' ((i, .ref x) :: lv) st h P) : RP M pc lv (.ref x :: st) h P := by
  intro g p l e s m args below meth c C H locs ls hP hS hL
  obtain ⟨hd, rfl⟩ := hd
  obtain ⟨hx, hb, hml, hr, hown, hts, hlk, hK, hCK, hi⟩ := C
  obtain ⟨l0, h1, h2⟩ := hL
  exact lv_astore hx hb hd h1 hm rfl (fun ls' h' => k g p l e s m args below meth c ⟨hx, hb, hml, hr, hown, hts, hlk, hK, hCK, hi⟩ H locs _ hP hS (cf_L.st1 (v := .ref x) hn h2 h'))
theorem rp_astore_n {M : cf_M} {pc pc' : Nat} {lv : List (Nat × Value)} {st : List Value} {h : cf_H} {P : Option Value → cf_H → Prop} {j : Fin 4} {i : Nat} {x : Nat} (hd : cf_D M pc (.astore_n j) 1 pc') (hj : (j : Nat) = i) (hn : cf_nl lv i = true) (hm : i < cf_mL M) (k : RP M pc' ((i, .ref x) :: lv) st h P) : RP M pc lv (.ref x :: st) h P := by
  intro g p l e s m args below meth c C H locs ls hP hS hL
  obtain ⟨hd, rfl⟩ := hd
  obtain ⟨hx, hb, hml, hr, hown, hts, hlk, hK, hCK, hi⟩ := C
  obtain ⟨l0, h1, h2⟩ := hL
  exact lv_astore_n hx hb hd hj h1 hm rfl (fun ls' h' => k g p l e s m args below meth c ⟨hx, hb, hml, hr, hown, hts, hlk, hK, hCK, hi⟩ H locs _ hP hS (cf_L.st1 (v := .ref x) hn h2 h'))
theorem rp_iinc {M : cf_M} {pc pc' : Nat} {lv : List (Nat × Value)} {st : List Value} {h : cf_H} {P : Option Value → cf_H → Prop} {i : Nat} {n : Int} {x : Int32} (hd : cf_D M pc (.iinc i n) 3 pc') (hl : cf_lk lv i = some (.int x)) {y : Int32} (hy : Int32.ofInt n = y) (hn : cf_nl lv i = true) (hm : i < cf_mL M) (k : RP M pc' ((i, .int (x + y)) :: lv) st h P) : RP M pc lv st h P := by
  intro g p l e s m args below meth c C H locs ls hP hS hL
  obtain ⟨hd, rfl⟩ := hd
  obtain ⟨hx, hb, hml, hr, hown, hts, hlk, hK, hCK, hi⟩ := C
  obtain ⟨l0, h1, h2⟩ := hL
  obtain ⟨k0, hk0⟩ := List.getElem?_of_mem (h2 i _ hl (by intro e; cases e))
  subst hy
  exact lv_iinc hx hb hd h1 hk0 rfl hm rfl (fun ls' h' => k g p l e s m args below meth c ⟨hx, hb, hml, hr, hown, hts, hlk, hK, hCK, hi⟩ H locs _ hP hS (cf_L.st1 (v := .int (x + Int32.ofInt n)) hn h2 h'))
theorem rp_if_eq {M : cf_M} {pc pc' tgt : Nat} {lv : List (Nat × Value)} {st : List Value} {h : cf_H} {P : Option Value → cf_H → Prop} {off : Int} {x : Int32} (hd : cf_D M pc (.ifCond .eq off) 3 pc') (ht : (pc : Int) + off = (tgt : Int)) (kt : x = 0 → RP M tgt lv st h P) (kf : ¬ x = 0 → RP M pc' lv st h P) : RP M pc lv (.int x :: st) h P := by
  intro g p l e s m args below meth c C H locs ls hP hS hL
  obtain ⟨hd, rfl⟩ := hd
  obtain ⟨hx, hb, hml, hr, hown, hts, hlk, hK, hCK, hi⟩ := C
  exact lv_if_eq hx hb hd ht (fun q => kt q g p l e s m args below meth c ⟨hx, hb, hml, hr, hown, hts, hlk, hK, hCK, hi⟩ H locs ls hP hS hL) (fun q => kf q g p l e s m args below meth c ⟨hx, hb, hml, hr, hown, hts, hlk, hK, hCK, hi⟩ H locs ls hP hS hL)
theorem rp_if_ne {M : cf_M} {pc pc' tgt : Nat} {lv : List (Nat × Value)} {st : List Value} {h : cf_H} {P : Option Value → cf_H → Prop} {off : Int} {x : Int32} (hd : cf_D M pc (.ifCond .ne off) 3 pc') (ht : (pc : Int) + off = (tgt : Int)) (kt : ¬ x = 0 → RP M tgt lv st h P) (kf : x = 0 → RP M pc' lv st h P) : RP M pc lv (.int x :: st) h P := by
  intro g p l e s m args below meth c C H locs ls hP hS hL
  obtain ⟨hd, rfl⟩ := hd
  obtain ⟨hx, hb, hml, hr, hown, hts, hlk, hK, hCK, hi⟩ := C
  exact lv_if_ne hx hb hd ht (fun q => kt q g p l e s m args below meth c ⟨hx, hb, hml, hr, hown, hts, hlk, hK, hCK, hi⟩ H locs ls hP hS hL) (fun q => kf q g p l e s m args below meth c ⟨hx, hb, hml, hr, hown, hts, hlk, hK, hCK, hi⟩ H locs ls hP hS hL)
theorem rp_if_lt {M : cf_M} {pc pc' tgt : Nat} {lv : List (Nat × Value)} {st : List Value} {h : cf_H} {P : Option Value → cf_H → Prop} {off : Int} {x : Int32} (hd : cf_D M pc (.ifCond .lt off) 3 pc') (ht : (pc : Int) + off = (tgt : Int)) (kt : x < 0 → RP M tgt lv st h P) (kf : ¬ x < 0 → RP M pc' lv st h P) : RP M pc lv (.int x :: st) h P := by
  intro g p l e s m args below meth c C H locs ls hP hS hL
  obtain ⟨hd, rfl⟩ := hd
  obtain ⟨hx, hb, hml, hr, hown, hts, hlk, hK, hCK, hi⟩ := C
  exact lv_if_lt hx hb hd ht (fun q => kt q g p l e s m args below meth c ⟨hx, hb, hml, hr, hown, hts, hlk, hK, hCK, hi⟩ H locs ls hP hS hL) (fun q => kf q g p l e s m args below meth c ⟨hx, hb, hml, hr, hown, hts, hlk, hK, hCK, hi⟩ H locs ls hP hS hL)
theorem rp_if_ge {M : cf_M} {pc pc' tgt : Nat} {lv : List (Nat × Value)} {st : List Value} {h : cf_H} {P : Option Value → cf_H → Prop} {off : Int} {x : Int32} (hd : cf_D M pc (.ifCond .ge off) 3 pc') (ht : (pc : Int) + off = (tgt : Int)) (kt : 0 ≤ x → RP M tgt lv st h P) (kf : ¬ 0 ≤ x → RP M pc' lv st h P) : RP M pc lv (.int x :: st) h P := by
  intro g p l e s m args below meth c C H locs ls hP hS hL
  obtain ⟨hd, rfl⟩ := hd
  obtain ⟨hx, hb, hml, hr, hown, hts, hlk, hK, hCK, hi⟩ := C
  exact lv_if_ge hx hb hd ht (fun q => kt q g p l e s m args below meth c ⟨hx, hb, hml, hr, hown, hts, hlk, hK, hCK, hi⟩ H locs ls hP hS hL) (fun q => kf q g p l e s m args below meth c ⟨hx, hb, hml, hr, hown, hts, hlk, hK, hCK, hi⟩ H locs ls hP hS hL)
theorem rp_if_gt {M : cf_M} {pc pc' tgt : Nat} {lv : List (Nat × Value)} {st : List Value} {h : cf_H} {P : Option Value → cf_H → Prop} {off : Int} {x : Int32} (hd : cf_D M pc (.ifCond .gt off) 3 pc') (ht : (pc : Int) + off = (tgt : Int)) (kt : 0 < x → RP M tgt lv st h P) (kf : ¬ 0 < x → RP M pc' lv st h P) : RP M pc lv (.int x :: st) h P := by
  intro g p l e s m args below meth c C H locs ls hP hS hL
  obtain ⟨hd, rfl⟩ := hd
  obtain ⟨hx, hb, hml, hr, hown, hts, hlk, hK, hCK, hi⟩ := C
  exact lv_if_gt hx hb hd ht (fun q => kt q g p l e s m args below meth c ⟨hx, hb, hml, hr, hown, hts, hlk, hK, hCK, hi⟩ H locs ls hP hS hL) (fun q => kf q g p l e s m args below meth c ⟨hx, hb, hml, hr, hown, hts, hlk, hK, hCK, hi⟩ H locs ls hP hS hL)
theorem rp_if_le {M : cf_M} {pc pc' tgt : Nat} {lv : List (Nat × Value)} {st : List Value} {h : cf_H} {P : Option Value → cf_H → Prop} {off : Int} {x : Int32} (hd : cf_D M pc (.ifCond .le off) 3 pc') (ht : (pc : Int) + off = (tgt : Int)) (kt : x ≤ 0 → RP M tgt lv st h P) (kf : ¬ x ≤ 0 → RP M pc' lv st h P) : RP M pc lv (.int x :: st) h P := by
  intro g p l e s m args below meth c C H locs ls hP hS hL
  obtain ⟨hd, rfl⟩ := hd
  obtain ⟨hx, hb, hml, hr, hown, hts, hlk, hK, hCK, hi⟩ := C
  exact lv_if_le hx hb hd ht (fun q => kt q g p l e s m args below meth c ⟨hx, hb, hml, hr, hown, hts, hlk, hK, hCK, hi⟩ H locs ls hP hS hL) (fun q => kf q g p l e s m args below meth c ⟨hx, hb, hml, hr, hown, hts, hlk, hK, hCK, hi⟩ H locs ls hP hS hL)
theorem rp_icmp_eq {M : cf_M} {pc pc' tgt : Nat} {lv : List (Nat × Value)} {st : List Value} {h : cf_H} {P : Option Value → cf_H → Prop} {off : Int} {x y : Int32} (hd : cf_D M pc (.if_icmp .eq off) 3 pc') (ht : (pc : Int) + off = (tgt : Int)) (kt : x = y → RP M tgt lv st h P) (kf : ¬ x = y → RP M pc' lv st h P) : RP M pc lv (.int y :: .int x :: st) h P := by
  intro g p l e s m args below meth c C H locs ls hP hS hL
  obtain ⟨hd, rfl⟩ := hd
  obtain ⟨hx, hb, hml, hr, hown, hts, hlk, hK, hCK, hi⟩ := C
  exact lv_icmp_eq hx hb hd ht (fun q => kt q g p l e s m args below meth c ⟨hx, hb, hml, hr, hown, hts, hlk, hK, hCK, hi⟩ H locs ls hP hS hL) (fun q => kf q g p l e s m args below meth c ⟨hx, hb, hml, hr, hown, hts, hlk, hK, hCK, hi⟩ H locs ls hP hS hL)
theorem rp_icmp_ne {M : cf_M} {pc pc' tgt : Nat} {lv : List (Nat × Value)} {st : List Value} {h : cf_H} {P : Option Value → cf_H → Prop} {off : Int} {x y : Int32} (hd : cf_D M pc (.if_icmp .ne off) 3 pc') (ht : (pc : Int) + off = (tgt : Int)) (kt : ¬ x = y → RP M tgt lv st h P) (kf : x = y → RP M pc' lv st h P) : RP M pc lv (.int y :: .int x :: st) h P := by
  intro g p l e s m args below meth c C H locs ls hP hS hL
  obtain ⟨hd, rfl⟩ := hd
  obtain ⟨hx, hb, hml, hr, hown, hts, hlk, hK, hCK, hi⟩ := C
  exact lv_icmp_ne hx hb hd ht (fun q => kt q g p l e s m args below meth c ⟨hx, hb, hml, hr, hown, hts, hlk, hK, hCK, hi⟩ H locs ls hP hS hL) (fun q => kf q g p l e s m args below meth c ⟨hx, hb, hml, hr, hown, hts, hlk, hK, hCK, hi⟩ H locs ls hP hS hL)
theorem rp_icmp_lt {M : cf_M} {pc pc' tgt : Nat} {lv : List (Nat × Value)} {st : List Value} {h : cf_H} {P : Option Value → cf_H → Prop} {off : Int} {x y : Int32} (hd : cf_D M pc (.if_icmp .lt off) 3 pc') (ht : (pc : Int) + off = (tgt : Int)) (kt : x < y → RP M tgt lv st h P) (kf : ¬ x < y → RP M pc' lv st h P) : RP M pc lv (.int y :: .int x :: st) h P := by
  intro g p l e s m args below meth c C H locs ls hP hS hL
  obtain ⟨hd, rfl⟩ := hd
  obtain ⟨hx, hb, hml, hr, hown, hts, hlk, hK, hCK, hi⟩ := C
  exact lv_icmp_lt hx hb hd ht (fun q => kt q g p l e s m args below meth c ⟨hx, hb, hml, hr, hown, hts, hlk, hK, hCK, hi⟩ H locs ls hP hS hL) (fun q => kf q g p l e s m args below meth c ⟨hx, hb, hml, hr, hown, hts, hlk, hK, hCK, hi⟩ H locs ls hP hS hL)
theorem rp_icmp_ge {M : cf_M} {pc pc' tgt : Nat} {lv : List (Nat × Value)} {st : List Value} {h : cf_H} {P : Option Value → cf_H → Prop} {off : Int} {x y : Int32} (hd : cf_D M pc (.if_icmp .ge off) 3 pc') (ht : (pc : Int) + off = (tgt : Int)) (kt : y ≤ x → RP M tgt lv st h P) (kf : ¬ y ≤ x → RP M pc' lv st h P) : RP M pc lv (.int y :: .int x :: st) h P := by
  intro g p l e s m args below meth c C H locs ls hP hS hL
  obtain ⟨hd, rfl⟩ := hd
  obtain ⟨hx, hb, hml, hr, hown, hts, hlk, hK, hCK, hi⟩ := C
  exact lv_icmp_ge hx hb hd ht (fun q => kt q g p l e s m args below meth c ⟨hx, hb, hml, hr, hown, hts, hlk, hK, hCK, hi⟩ H locs ls hP hS hL) (fun q => kf q g p l e s m args below meth c ⟨hx, hb, hml, hr, hown, hts, hlk, hK, hCK, hi⟩ H locs ls hP hS hL)
theorem rp_icmp_gt {M : cf_M} {pc pc' tgt : Nat} {lv : List (Nat × Value)} {st : List Value} {h : cf_H} {P : Option Value → cf_H → Prop} {off : Int} {x y : Int32} (hd : cf_D M pc (.if_icmp .gt off) 3 pc') (ht : (pc : Int) + off = (tgt : Int)) (kt : y < x → RP M tgt lv st h P) (kf : ¬ y < x → RP M pc' lv st h P) : RP M pc lv (.int y :: .int x :: st) h P := by
  intro g p l e s m args below meth c C H locs ls hP hS hL
  obtain ⟨hd, rfl⟩ := hd
  obtain ⟨hx, hb, hml, hr, hown, hts, hlk, hK, hCK, hi⟩ := C
  exact lv_icmp_gt hx hb hd ht (fun q => kt q g p l e s m args below meth c ⟨hx, hb, hml, hr, hown, hts, hlk, hK, hCK, hi⟩ H locs ls hP hS hL) (fun q => kf q g p l e s m args below meth c ⟨hx, hb, hml, hr, hown, hts, hlk, hK, hCK, hi⟩ H locs ls hP hS hL)
theorem rp_icmp_le {M : cf_M} {pc pc' tgt : Nat} {lv : List (Nat × Value)} {st : List Value} {h : cf_H} {P : Option Value → cf_H → Prop} {off : Int} {x y : Int32} (hd : cf_D M pc (.if_icmp .le off) 3 pc') (ht : (pc : Int) + off = (tgt : Int)) (kt : x ≤ y → RP M tgt lv st h P) (kf : ¬ x ≤ y → RP M pc' lv st h P) : RP M pc lv (.int y :: .int x :: st) h P := by
  intro g p l e s m args below meth c C H locs ls hP hS hL
  obtain ⟨hd, rfl⟩ := hd
  obtain ⟨hx, hb, hml, hr, hown, hts, hlk, hK, hCK, hi⟩ := C
  exact lv_icmp_le hx hb hd ht (fun q => kt q g p l e s m args below meth c ⟨hx, hb, hml, hr, hown, hts, hlk, hK, hCK, hi⟩ H locs ls hP hS hL) (fun q => kf q g p l e s m args below meth c ⟨hx, hb, hml, hr, hown, hts, hlk, hK, hCK, hi⟩ H locs ls hP hS hL)
theorem rp_goto {M : cf_M} {pc pc' tgt : Nat} {lv : List (Nat × Value)} {st : List Value} {h : cf_H} {P : Option Value → cf_H → Prop} {off : Int} (hd : cf_D M pc (.goto off) 3 pc') (ht : (pc : Int) + off = (tgt : Int)) (k : RP M tgt lv st h P) : RP M pc lv st h P := by
  intro g p l e s m args below meth c C H locs ls hP hS hL
  obtain ⟨hd, rfl⟩ := hd
  obtain ⟨hx, hb, hml, hr, hown, hts, hlk, hK, hCK, hi⟩ := C
  exact lv_goto hx hb hd ht (k g p l e s m args below meth c ⟨hx, hb, hml, hr, hown, hts, hlk, hK, hCK, hi⟩ H locs ls hP hS hL)
theorem rp_ireturn {M : cf_M} {pc pc' : Nat} {lv : List (Nat × Value)} {h : cf_H} {P : Option Value → cf_H → Prop} {ty : FieldType} {x : Int32} (hd : cf_D M pc .ireturn 1 pc') (ht : cf_ret M = some ty) (hn : narrow ty (.int x) = .int x) (k : P (some (.int x)) h) : RP M pc lv [.int x] h P := by
  intro g p l e s m args below meth c C H locs ls hP hS hL
  obtain ⟨hd, rfl⟩ := hd
  obtain ⟨hx, hb, hml, hr, hown, hts, hlk, hK, hCK, hi⟩ := C
  exact W.zret hx hb (hr.trans ht) hn (fun t ht _ => ⟨⟨some (.int x), h, rfl, k, by rw [ht]; exact hP⟩, hS.F ht⟩) hS.2.2 hd hlk
theorem rp_lreturn {M : cf_M} {pc pc' : Nat} {lv : List (Nat × Value)} {h : cf_H} {P : Option Value → cf_H → Prop} {x : Int64} (hd : cf_D M pc .lreturn 1 pc') (ht : cf_ret M = some .long) (k : P (some (.long x)) h) : RP M pc lv [.long x] h P := by
  intro g p l e s m args below meth c C H locs ls hP hS hL
  obtain ⟨hd, rfl⟩ := hd
  obtain ⟨hx, hb, hml, hr, hown, hts, hlk, hK, hCK, hi⟩ := C
  exact W.lret hx hb (hr.trans ht) (fun t ht _ => ⟨⟨some (.long x), h, rfl, k, by rw [ht]; exact hP⟩, hS.F ht⟩) hS.2.2 hd hlk
theorem rp_return {M : cf_M} {pc pc' : Nat} {lv : List (Nat × Value)} {h : cf_H} {P : Option Value → cf_H → Prop} (hd : cf_D M pc .return_ 1 pc') (ht : cf_ret M = none) (k : P none h) : RP M pc lv [] h P := by
  intro g p l e s m args below meth c C H locs ls hP hS hL
  obtain ⟨hd, rfl⟩ := hd
  obtain ⟨hx, hb, hml, hr, hown, hts, hlk, hK, hCK, hi⟩ := C
  exact W.vret hx hb (hr.trans ht) (fun t ht _ => ⟨⟨none, h, rfl, k, by rw [ht]; exact hP⟩, hS.F ht⟩) hS.2.2 hd hlk
/-! fields -/
def cf_F (own : String) (idx ci k kind : Nat) (ty : FieldType) (fin : Bool) : Prop := ∃ (C : String) (T : u_T) (N : Nat) (tys : Nat → FieldType), cf_cl[ci]? = some (C, T, N) ∧ (∀ w ∈ u_ws C T N, w ∈ cf_T) ∧ (∀ j, j < N → parseFieldDescriptor (T j).2.2.1 = some (tys j)) ∧ (∀ a, a < N → ∀ b, b < N → a ≠ b → (T a).2.1 ≠ (T b).2.1) ∧ k < N ∧ cf_N ci = N ∧ cf_kd ci k = kind ∧ tys k = ty ∧ (T k).2.2.2 = fin ∧ (T k).1 = C ∧ (Cond.fieldLink own idx C (T k).2.1 (T k).2.2.1 ∈ cf_T ∨ ∃ host, Cond.fieldLinkNest own idx C (T k).2.1 (T k).2.2.1 host ∈ lw_tbl)
theorem cf_getW {M : cf_M} {pc idx ci k kind o : Nat} {ty : FieldType} {fin : Bool} {h : cf_H} {g : cf_G} {p : Program} {l : Launch} {e : Env} {R : Room} {s : State} {m : MethodId} {args : Array Value} {below : List Frame} {meth : Method} {c : Code} {H : Heap} {locs : List Loc} {cells slots : Nat} {Q : State → Prop} {ls : Array Slot} {rest : List Value}
    (hd : decode (cf_code M) pc = .ok (.getfield idx, 3)) (hf : cf_F (cf_own M) idx ci k kind ty fin) (ho : cf_shl[o]? = some (.inl ci)) (C0 : cf_C g M p s m args meth c) (hP : va_P g.2.1 cf_cl (cf_ws g h) H)
    (kk : W p l e R s m args below meth c H locs cells slots Q (F0 m (pc + 3) ls (cf_fv g.1 h o ci k :: rest))) : W p l e R s m args below meth c H locs cells slots Q (F0 m pc ls (.ref (g.1 o) :: rest)) := by
  obtain ⟨hx, hb, hml, hr, hown, hts, hlk, hK, hCK, hi⟩ := C0
  obtain ⟨C, T, N, tys, hc, hin, hty, hnm, hk, hN, hkd, hty2, hfin, hC, hl⟩ := hf
  have he : (cf_ws g h)[o]? = some (g.1 o, .inr (ci, (List.range (cf_N ci)).map (cf_fv g.1 h o ci))) := cf_ws_at ho
  rcases hl with hl | ⟨host, hl⟩
  · exact va_get hx hb hts hin hown hK hP o he hc k hk (hts _ hl) (fun x h => by rw [hC] at h; exact h) (cf_fld_at hN hk) hd kk
  · exact va_getN hx hb hts hin hown hK hP o he hc k hk (va_Nw.use rfl (hCK.2.2.2.2.1 _ _ _ _ _ _ hl)) (fun x h => by rw [hC] at h; exact h) (cf_fld_at hN hk) hd kk
theorem cf_oth {g : cf_G} {h h' : cf_H} {o : Nat} (h1 : ∀ a, a ≠ o → ∀ b, h'.1 a b = h.1 a b) (h2 : ∀ a, a ≠ o → ∀ b, h'.2.1 a b = h.2.1 a b) (h3 : ∀ a, a ≠ o → ∀ b, h'.2.2.1 a b = h.2.2.1 a b) (h4 : ∀ a, a ≠ o → h'.2.2.2 a = h.2.2.2 a) : ∀ a z, cf_shl[a]? = some z → a ≠ o → cf_cell g h' a z = cf_cell g h a z := by
  intro a z _ ha
  unfold cf_cell
  cases z with
  | inl ci =>
    have : cf_fv g.1 h' a ci = cf_fv g.1 h a ci := by
      funext k
      unfold cf_fv
      rw [h1 a ha, h2 a ha, h3 a ha]
    simp only [this]
  | inr q =>
    obtain ⟨t, n⟩ := q
    simp only [h4 a ha]
theorem cf_putW {M : cf_M} {pc idx ci k kind o : Nat} {ty : FieldType} {h h' : cf_H} {v : Value} {g : cf_G} {p : Program} {l : Launch} {e : Env} {R : Room} {s : State} {m : MethodId} {args : Array Value} {below : List Frame} {meth : Method} {c : Code} {H : Heap} {locs : List Loc} {cells slots : Nat} {Q : State → Prop} {ls : Array Slot} {rest : List Value}
    (hd : decode (cf_code M) pc = .ok (.putfield idx, 3)) (hf : cf_F (cf_own M) idx ci k kind ty false) (ho : cf_shl[o]? = some (.inl ci)) (hn : narrow ty v = v) (hfit : fits ty v = true) (C0 : cf_C g M p s m args meth c) (hP : va_P g.2.1 cf_cl (cf_ws g h) H) (hS : va_S (cf_A g.1) s.heap H locs)
    (hv : cf_kd ci k = kind → cf_fv g.1 h' o ci k = v) (hsame : ∀ j, j ≠ k → cf_fv g.1 h' o ci j = cf_fv g.1 h o ci j) (hoth : ∀ a z, cf_shl[a]? = some z → a ≠ o → cf_cell g h' a z = cf_cell g h a z)
    (kk : ∀ H1 locs1, va_P g.2.1 cf_cl (cf_ws g h') H1 → va_S (cf_A g.1) s.heap H1 locs1 → W p l e R s m args below meth c H1 locs1 cells slots Q (F0 m (pc + 3) ls rest)) : W p l e R s m args below meth c H locs cells slots Q (F0 m pc ls (v :: .ref (g.1 o) :: rest)) := by
  obtain ⟨hx, hb, hml, hr, hown, hts, hlk, hK, hCK, hi⟩ := C0
  obtain ⟨C, T, N, tys, hc, hin, hty, hnm, hk, hN, hkd, hty2, hfin, hC, hl⟩ := hf
  have he : (cf_ws g h)[o]? = some (g.1 o, .inr (ci, (List.range (cf_N ci)).map (cf_fv g.1 h o ci))) := cf_ws_at ho
  have hset : (cf_ws g h).set o (g.1 o, .inr (ci, ((List.range (cf_N ci)).map (cf_fv g.1 h o ci)).set k v)) = cf_ws g h' := cf_ws_set ho (by show (Sum.inr (ci, _) : va_E) = _; rw [cf_fld_set hN hk (hv hkd) hsame]) hoth
  have hpd : parseFieldDescriptor (T k).2.2.1 = some ty := by rw [← hty2]; exact hty k hk
  have hlen : k < ((List.range (cf_N ci)).map (cf_fv g.1 h o ci)).length := by simp; omega
  rcases hl with hl | ⟨host, hl⟩
  · exact va_put hx hb hts hin tys hty hnm hown hK hP (cf_wD h hi) hS o he hc k hk (hts _ hl) (fun x h => by rw [hC] at h; exact h) hfin hpd hn hfit hlen hd (fun H1 locs1 q1 _ q3 => kk H1 locs1 (by rw [← hset]; exact q1) q3)
  · exact va_putN hx hb hts hin tys hty hnm hown hK hP (cf_wD h hi) hS o he hc k hk (va_Nw.use rfl (hCK.2.2.2.2.1 _ _ _ _ _ _ hl)) (fun x h => by rw [hC] at h; exact h) hfin hpd hn hfit hlen hd (fun H1 locs1 q1 _ q3 => kk H1 locs1 (by rw [← hset]; exact q1) q3)

theorem rp_getI {M : cf_M} {pc pc' idx ci k o : Nat} {ty : FieldType} {fin : Bool} {lv : List (Nat × Value)} {st : List Value} {h : cf_H} {P : Option Value → cf_H → Prop} (hd : cf_D M pc (.getfield idx) 3 pc') (hf : cf_F (cf_own M) idx ci k 0 ty fin) (ho : cf_shl[o]? = some (.inl ci)) (kk : RP M pc' lv (.int (h.1 o k) :: st) h P) : RP M pc lv (.ref o :: st) h P := by
  intro g p l e s m args below meth c C H locs ls hP hS hL
  obtain ⟨hd, rfl⟩ := hd
  have hkd : cf_kd ci k = 0 := by obtain ⟨_, _, _, _, _, _, _, _, _, _, q, _⟩ := hf; exact q
  refine cf_getW hd hf ho C hP ?_
  rw [cf_fv0 hkd]
  exact kk g p l e s m args below meth c C H locs ls hP hS hL
theorem rp_getJ {M : cf_M} {pc pc' idx ci k o : Nat} {ty : FieldType} {fin : Bool} {lv : List (Nat × Value)} {st : List Value} {h : cf_H} {P : Option Value → cf_H → Prop} (hd : cf_D M pc (.getfield idx) 3 pc') (hf : cf_F (cf_own M) idx ci k 1 ty fin) (ho : cf_shl[o]? = some (.inl ci)) (kk : RP M pc' lv (.long (h.2.1 o k) :: st) h P) : RP M pc lv (.ref o :: st) h P := by
  intro g p l e s m args below meth c C H locs ls hP hS hL
  obtain ⟨hd, rfl⟩ := hd
  have hkd : cf_kd ci k = 1 := by obtain ⟨_, _, _, _, _, _, _, _, _, _, q, _⟩ := hf; exact q
  refine cf_getW hd hf ho C hP ?_
  rw [cf_fv1 hkd]
  exact kk g p l e s m args below meth c C H locs ls hP hS hL
theorem rp_getR {M : cf_M} {pc pc' idx ci k o : Nat} {ty : FieldType} {fin : Bool} {lv : List (Nat × Value)} {st : List Value} {h : cf_H} {P : Option Value → cf_H → Prop} {q : Nat} (hd : cf_D M pc (.getfield idx) 3 pc') (hf : cf_F (cf_own M) idx ci k 2 ty fin) (ho : cf_shl[o]? = some (.inl ci)) (hq : h.2.2.1 o k = some q) (kk : RP M pc' lv (.ref q :: st) h P) : RP M pc lv (.ref o :: st) h P := by
  intro g p l e s m args below meth c C H locs ls hP hS hL
  obtain ⟨hd, rfl⟩ := hd
  have hkd : cf_kd ci k = 2 := by obtain ⟨_, _, _, _, _, _, _, _, _, _, q, _⟩ := hf; exact q
  refine cf_getW hd hf ho C hP ?_
  rw [cf_fv2 hkd, hq]
  exact kk g p l e s m args below meth c C H locs ls hP hS hL
theorem rp_putI {M : cf_M} {pc pc' idx ci k o : Nat} {ty : FieldType} {lv : List (Nat × Value)} {st : List Value} {h : cf_H} {P : Option Value → cf_H → Prop} {x : Int32} (hd : cf_D M pc (.putfield idx) 3 pc') (hf : cf_F (cf_own M) idx ci k 0 ty false) (ho : cf_shl[o]? = some (.inl ci)) (hn : narrow ty (.int x) = .int x) (hfit : fits ty (.int x) = true) (kk : RP M pc' lv st (cf_pI h o k x) P) : RP M pc lv (.int x :: .ref o :: st) h P := by
  intro g p l e s m args below meth c C H locs ls hP hS hL
  obtain ⟨hd, rfl⟩ := hd
  refine cf_putW hd hf ho hn hfit C hP hS (h' := cf_pI h o k x) (fun hkd => by rw [cf_fv0 hkd]; exact congrArg _ (cf_u2_same _ _ _ _)) (fun j hj => by simp only [cf_fv, cf_pI]; rw [cf_u2_k _ _ hj]) (cf_oth (fun a ha b => by first | rfl | exact cf_u2_o _ _ ha) (fun a ha b => by first | rfl | exact cf_u2_o _ _ ha) (fun a ha b => by first | rfl | exact cf_u2_o _ _ ha) (fun a ha => rfl)) (fun H1 locs1 q1 q2 => kk g p l e s m args below meth c C H1 locs1 ls q1 q2 hL)
theorem rp_putJ {M : cf_M} {pc pc' idx ci k o : Nat} {ty : FieldType} {lv : List (Nat × Value)} {st : List Value} {h : cf_H} {P : Option Value → cf_H → Prop} {x : Int64} (hd : cf_D M pc (.putfield idx) 3 pc') (hf : cf_F (cf_own M) idx ci k 1 ty false) (ho : cf_shl[o]? = some (.inl ci)) (hn : narrow ty (.long x) = .long x) (hfit : fits ty (.long x) = true) (kk : RP M pc' lv st (cf_pJ h o k x) P) : RP M pc lv (.long x :: .ref o :: st) h P := by
  intro g p l e s m args below meth c C H locs ls hP hS hL
  obtain ⟨hd, rfl⟩ := hd
  refine cf_putW hd hf ho hn hfit C hP hS (h' := cf_pJ h o k x) (fun hkd => by rw [cf_fv1 hkd]; exact congrArg _ (cf_u2_same _ _ _ _)) (fun j hj => by simp only [cf_fv, cf_pJ]; rw [cf_u2_k _ _ hj]) (cf_oth (fun a ha b => by first | rfl | exact cf_u2_o _ _ ha) (fun a ha b => by first | rfl | exact cf_u2_o _ _ ha) (fun a ha b => by first | rfl | exact cf_u2_o _ _ ha) (fun a ha => rfl)) (fun H1 locs1 q1 q2 => kk g p l e s m args below meth c C H1 locs1 ls q1 q2 hL)
theorem rp_putR {M : cf_M} {pc pc' idx ci k o : Nat} {ty : FieldType} {lv : List (Nat × Value)} {st : List Value} {h : cf_H} {P : Option Value → cf_H → Prop} {x : Nat} (hd : cf_D M pc (.putfield idx) 3 pc') (hf : cf_F (cf_own M) idx ci k 2 ty false) (ho : cf_shl[o]? = some (.inl ci)) (hn : ∀ a, narrow ty (.ref a) = .ref a) (hfit : ∀ a, fits ty (.ref a) = true) (kk : RP M pc' lv st (cf_pR h o k (some x)) P) : RP M pc lv (.ref x :: .ref o :: st) h P := by
  intro g p l e s m args below meth c C H locs ls hP hS hL
  obtain ⟨hd, rfl⟩ := hd
  refine cf_putW hd hf ho (hn _) (hfit _) C hP hS (h' := cf_pR h o k (some x)) (fun hkd => by rw [cf_fv2 hkd]; show va_rf ((cf_u2 h.2.2.1 o k (some x) o k).map g.1) = _; rw [cf_u2_same]; rfl) (fun j hj => by simp only [cf_fv, cf_pR]; rw [cf_u2_k _ _ hj]) (cf_oth (fun a ha b => by first | rfl | exact cf_u2_o _ _ ha) (fun a ha b => by first | rfl | exact cf_u2_o _ _ ha) (fun a ha b => by first | rfl | exact cf_u2_o _ _ ha) (fun a ha => rfl)) (fun H1 locs1 q1 q2 => kk g p l e s m args below meth c C H1 locs1 ls q1 q2 hL)
theorem rp_iaload {M : cf_M} {pc pc' o n : Nat} {lv : List (Nat × Value)} {st : List Value} {h : cf_H} {P : Option Value → cf_H → Prop} {i : Int32} (hd : cf_D M pc .iaload 1 pc') (ho : cf_shl[o]? = some (.inr (0, n))) (hin : vp_in i n) (kk : RP M pc' lv (.int (h.2.2.2 o i.toNatClampNeg) :: st) h P) : RP M pc lv (.int i :: .ref o :: st) h P := by
  intro g p l e s m args below meth c C H locs ls hP hS hL
  obtain ⟨hd, rfl⟩ := hd
  obtain ⟨hx, hb, hml, hr, hown, hts, hlk, hK, hCK, hi⟩ := id C
  exact va_iald hx hb hK hP o 0 (cf_ws_at ho) rfl hin hd (kk g p l e s m args below meth c C H locs ls hP hS hL)
theorem rp_caload {M : cf_M} {pc pc' o n : Nat} {lv : List (Nat × Value)} {st : List Value} {h : cf_H} {P : Option Value → cf_H → Prop} {i : Int32} (hd : cf_D M pc .caload 1 pc') (ho : cf_shl[o]? = some (.inr (1, n))) (hin : vp_in i n) (kk : RP M pc' lv (.int (h.2.2.2 o i.toNatClampNeg) :: st) h P) : RP M pc lv (.int i :: .ref o :: st) h P := by
  intro g p l e s m args below meth c C H locs ls hP hS hL
  obtain ⟨hd, rfl⟩ := hd
  obtain ⟨hx, hb, hml, hr, hown, hts, hlk, hK, hCK, hi⟩ := id C
  exact va_cald hx hb hK hP o 1 (cf_ws_at ho) rfl hin hd (kk g p l e s m args below meth c C H locs ls hP hS hL)
theorem rp_aaload {M : cf_M} {pc pc' o n : Nat} {lv : List (Nat × Value)} {st : List Value} {h : cf_H} {P : Option Value → cf_H → Prop} {i : Int32} {q : Nat} (hd : cf_D M pc .aaload 1 pc') (ho : cf_shl[o]? = some (.inr (2, n))) (hin : vp_in i n) (hq : cf_RA i.toNatClampNeg = some q) (kk : RP M pc' lv (.ref q :: st) h P) : RP M pc lv (.int i :: .ref o :: st) h P := by
  intro g p l e s m args below meth c C H locs ls hP hS hL
  obtain ⟨hd, rfl⟩ := hd
  obtain ⟨hx, hb, hml, hr, hown, hts, hlk, hK, hCK, hi⟩ := id C
  refine va_aldq hx hb hK hP o 2 (cf_ws_at ho) rfl hin hd ?_
  show W _ _ _ _ _ _ _ _ _ _ _ _ _ _ _ (F0 _ _ _ (va_rf ((cf_RA i.toNatClampNeg).map g.1) :: _))
  rw [hq]
  exact kk g p l e s m args below meth c C H locs ls hP hS hL
theorem rp_iastore {M : cf_M} {pc pc' o n : Nat} {lv : List (Nat × Value)} {st : List Value} {h : cf_H} {P : Option Value → cf_H → Prop} {i : Int32} {x : Int32} (hd : cf_D M pc .iastore 1 pc') (ho : cf_shl[o]? = some (.inr (0, n))) (hin : vp_in i n) (kk : RP M pc' lv st (cf_pA h o i (x)) P) : RP M pc lv (.int x :: .int i :: .ref o :: st) h P := by
  intro g p l e s m args below meth c C H locs ls hP hS hL
  obtain ⟨hd, rfl⟩ := hd
  obtain ⟨hx, hb, hml, hr, hown, hts, hlk, hK, hCK, hi⟩ := id C
  refine va_iast hx hb hK hP (cf_wD h hi) hS o 0 (cf_ws_at ho) rfl hin hd (fun H1 locs1 q1 _ q3 => kk g p l e s m args below meth c C H1 locs1 ls ?_ q3 hL)
  rw [cf_ws_set (h := h) (h' := cf_pA h o i (x)) ho (by show (Sum.inl (g.2.2 0, n, Sum.inl (cf_u1 h.2.2.2 o _ o)) : va_E) = _; rw [cf_u1_same]) (cf_oth (fun a ha b => rfl) (fun a ha b => rfl) (fun a ha b => rfl) (fun a ha => cf_u1_o _ _ ha))] at q1
  exact q1
theorem rp_castore {M : cf_M} {pc pc' o n : Nat} {lv : List (Nat × Value)} {st : List Value} {h : cf_H} {P : Option Value → cf_H → Prop} {i : Int32} {x : Int32} (hd : cf_D M pc .castore 1 pc') (ho : cf_shl[o]? = some (.inr (1, n))) (hin : vp_in i n) (kk : RP M pc' lv st (cf_pA h o i (vp_nar .char x)) P) : RP M pc lv (.int x :: .int i :: .ref o :: st) h P := by
  intro g p l e s m args below meth c C H locs ls hP hS hL
  obtain ⟨hd, rfl⟩ := hd
  obtain ⟨hx, hb, hml, hr, hown, hts, hlk, hK, hCK, hi⟩ := id C
  refine va_cast hx hb hK hP (cf_wD h hi) hS o 1 (cf_ws_at ho) rfl hin hd (fun H1 locs1 q1 _ q3 => kk g p l e s m args below meth c C H1 locs1 ls ?_ q3 hL)
  rw [cf_ws_set (h := h) (h' := cf_pA h o i (vp_nar .char x)) ho (by show (Sum.inl (g.2.2 1, n, Sum.inl (cf_u1 h.2.2.2 o _ o)) : va_E) = _; rw [cf_u1_same]) (cf_oth (fun a ha b => rfl) (fun a ha b => rfl) (fun a ha b => rfl) (fun a ha => cf_u1_o _ _ ha))] at q1
  exact q1
theorem rp_alen {M : cf_M} {pc pc' o n : Nat} {lv : List (Nat × Value)} {st : List Value} {h : cf_H} {P : Option Value → cf_H → Prop} {t : Nat} {ty : FieldType} {v : Int32} (hd : cf_D M pc .arraylength 1 pc') (ho : cf_shl[o]? = some (.inr (t, n))) (ht : ∀ dA, (cf_tys dA)[t]? = some (dA t, ty)) (hv : Int32.ofNat n = v) (kk : RP M pc' lv (.int v :: st) h P) : RP M pc lv (.ref o :: st) h P := by
  intro g p l e s m args below meth c C H locs ls hP hS hL
  obtain ⟨hd, rfl⟩ := hd
  obtain ⟨hx, hb, hml, hr, hown, hts, hlk, hK, hCK, hi⟩ := id C
  exact va_alen hx hb hK hP o t (cf_ws_at ho) (ht _) hv hd (kk g p l e s m args below meth c C H locs ls hP hS hL)
theorem rp_ialoadK {M : cf_M} {pc pc' o n : Nat} {lv : List (Nat × Value)} {st : List Value} {h : cf_H} {P : Option Value → cf_H → Prop} {i : Int32} {f : Nat → Value} {v : Value} (hd : cf_D M pc .iaload 1 pc') (ho : cf_ka o = some (.int, n, f)) (hin : vp_in i n) (hv : f i.toNatClampNeg = v) (ht : ∀ ad, cf_tr ad v = v) (kk : RP M pc' lv (v :: st) h P) : RP M pc lv (.int i :: .ref o :: st) h P := by
  intro g p l e s m args below meth c C H locs ls hP hS hL
  obtain ⟨hd, rfl⟩ := hd
  obtain ⟨hx, hb, hml, hr, hown, hts, hlk, hK, hCK, hi⟩ := id C
  refine va_ti hx hb (hCK.2.1 o _ _ _ ho) hS hin (hv.trans (ht g.1).symm) hd (kk g p l e s m args below meth c C H locs ls hP hS hL)
theorem rp_laloadK {M : cf_M} {pc pc' o n : Nat} {lv : List (Nat × Value)} {st : List Value} {h : cf_H} {P : Option Value → cf_H → Prop} {i : Int32} {f : Nat → Value} {v : Value} (hd : cf_D M pc .laload 1 pc') (ho : cf_ka o = some (.long, n, f)) (hin : vp_in i n) (hv : f i.toNatClampNeg = v) (ht : ∀ ad, cf_tr ad v = v) (kk : RP M pc' lv (v :: st) h P) : RP M pc lv (.int i :: .ref o :: st) h P := by
  intro g p l e s m args below meth c C H locs ls hP hS hL
  obtain ⟨hd, rfl⟩ := hd
  obtain ⟨hx, hb, hml, hr, hown, hts, hlk, hK, hCK, hi⟩ := id C
  refine va_tl hx hb (hCK.2.1 o _ _ _ ho) hS hin (hv.trans (ht g.1).symm) hd (kk g p l e s m args below meth c C H locs ls hP hS hL)
theorem rp_baloadK {M : cf_M} {pc pc' o n : Nat} {lv : List (Nat × Value)} {st : List Value} {h : cf_H} {P : Option Value → cf_H → Prop} {i : Int32} {f : Nat → Value} {v : Value} (hd : cf_D M pc .baload 1 pc') (ho : cf_ka o = some (.byte, n, f)) (hin : vp_in i n) (hv : f i.toNatClampNeg = v) (ht : ∀ ad, cf_tr ad v = v) (kk : RP M pc' lv (v :: st) h P) : RP M pc lv (.int i :: .ref o :: st) h P := by
  intro g p l e s m args below meth c C H locs ls hP hS hL
  obtain ⟨hd, rfl⟩ := hd
  obtain ⟨hx, hb, hml, hr, hown, hts, hlk, hK, hCK, hi⟩ := id C
  refine va_tb hx hb (hCK.2.1 o _ _ _ ho) hS hin (hv.trans (ht g.1).symm) hd (kk g p l e s m args below meth c C H locs ls hP hS hL)
theorem rp_alenK {M : cf_M} {pc pc' o n : Nat} {lv : List (Nat × Value)} {st : List Value} {h : cf_H} {P : Option Value → cf_H → Prop} {f : Nat → Value} {ty : FieldType} {v : Int32} (hd : cf_D M pc .arraylength 1 pc') (ho : cf_ka o = some (ty, n, f)) (hv : Int32.ofNat n = v) (kk : RP M pc' lv (.int v :: st) h P) : RP M pc lv (.ref o :: st) h P := by
  intro g p l e s m args below meth c C H locs ls hP hS hL
  obtain ⟨hd, rfl⟩ := hd
  obtain ⟨hx, hb, hml, hr, hown, hts, hlk, hK, hCK, hi⟩ := id C
  exact va_tlen hx hb (hCK.2.1 o _ _ _ ho) hS hv hd (kk g p l e s m args below meth c C H locs ls hP hS hL)
theorem rp_gets {M : cf_M} {pc pc' idx : Nat} {lv : List (Nat × Value)} {st : List Value} {h : cf_H} {P : Option Value → cf_H → Prop} {C n d : String} {v : Value} (hd : cf_D M pc (.getstatic idx) 3 pc') (hq : (C, n, d, v) ∈ cf_sts) (hw : Cond.fieldLink (cf_own M) idx C n d ∈ cf_T) (kk : RP M pc' lv (v :: st) h P) : RP M pc lv st h P := by
  intro g p l e s m args below meth c C0 H locs ls hP hS hL
  obtain ⟨hd, rfl⟩ := hd
  obtain ⟨hx, hb, hml, hr, hown, hts, hlk, hK, hCK, hi⟩ := id C0
  exact va_gets hx hb (hCK.1 _ hq) hS hown (hts _ hw) (fun x h => h) hd (kk g p l e s m args below meth c C0 H locs ls hP hS hL)
theorem rp_getsN {M : cf_M} {pc pc' idx : Nat} {lv : List (Nat × Value)} {st : List Value} {h : cf_H} {P : Option Value → cf_H → Prop} {C n d host : String} {v : Value} (hd : cf_D M pc (.getstatic idx) 3 pc') (hq : (C, n, d, v) ∈ cf_sts) (hw : Cond.fieldLinkNest (cf_own M) idx C n d host ∈ lw_tbl) (kk : RP M pc' lv (v :: st) h P) : RP M pc lv st h P := by
  intro g p l e s m args below meth c C0 H locs ls hP hS hL
  obtain ⟨hd, rfl⟩ := hd
  obtain ⟨hx, hb, hml, hr, hown, hts, hlk, hK, hCK, hi⟩ := id C0
  exact va_getsN hx hb (hCK.1 _ hq) hS hown (va_Nw.use rfl (hCK.2.2.2.2.1 _ _ _ _ _ _ hw)) (fun x h => h) hd (kk g p l e s m args below meth c C0 H locs ls hP hS hL)
theorem rp_getsQ {M : cf_M} {pc pc' idx : Nat} {lv : List (Nat × Value)} {st : List Value} {h : cf_H} {P : Option Value → cf_H → Prop} (hd : cf_D M pc (.getstatic idx) 3 pc') (hw : Cond.fieldLink (cf_own M) idx "jdk/internal/util/Preconditions" "SIOOBE_FORMATTER" "Ljava/util/function/BiFunction;" ∈ cf_T) (k1 : RP M pc' lv (.null :: st) h P) (k2 : RP M pc' lv (.ref 199 :: st) h P) : RP M pc lv st h P := by
  intro g p l e s m args below meth c C H locs ls hP hS hL
  obtain ⟨hd, rfl⟩ := hd
  obtain ⟨hx, hb, hml, hr, hown, hts, hlk, hK, hCK, hi⟩ := id C
  rcases hCK.2.2.2.1 with hz | hz
  · exact va_gets hx hb hz hS hown (hts _ hw) (fun x h => h) hd (k1 g p l e s m args below meth c C H locs ls hP hS hL)
  · exact va_gets hx hb hz hS hown (hts _ hw) (fun x h => h) hd (k2 g p l e s m args below meth c C H locs ls hP hS hL)
theorem rp_ldcS {M : cf_M} {pc pc' idx : Nat} {lv : List (Nat × Value)} {st : List Value} {h : cf_H} {P : Option Value → cf_H → Prop} {i : Nat} {tx : String} (hd : cf_D M pc (.ldc idx) 2 pc') (hq : cf_strs[i]? = some (cf_own M, idx, tx)) (kk : RP M pc' lv (.ref (110 + i) :: st) h P) : RP M pc lv st h P := by
  intro g p l e s m args below meth c C H locs ls hP hS hL
  obtain ⟨hd, rfl⟩ := hd
  obtain ⟨hx, hb, hml, hr, hown, hts, hlk, hK, hCK, hi⟩ := id C
  exact va_ldcS hx hb hown (hCK.2.2.1 _ _ _ _ hq).1 hd (kk g p l e s m args below meth c C H locs ls hP hS hL)
theorem rp_getSv {M : cf_M} {pc pc' idx : Nat} {lv : List (Nat × Value)} {st : List Value} {h : cf_H} {P : Option Value → cf_H → Prop} {i : Nat} {q : String × Nat × String} (hd : cf_D M pc (.getfield idx) 3 pc') (hq : cf_strs[i]? = some q) (hw : Cond.fieldLink (cf_own M) idx "java/lang/String" "value" "[B" ∈ cf_T) (kk : RP M pc' lv (.ref (130 + i) :: st) h P) : RP M pc lv (.ref (110 + i) :: st) h P := by
  intro g p l e s m args below meth c C H locs ls hP hS hL
  obtain ⟨hd, rfl⟩ := hd
  obtain ⟨hx, hb, hml, hr, hown, hts, hlk, hK, hCK, hi⟩ := id C
  exact vk_getf hx hb (hCK.2.2.1 _ _ _ _ hq).2.2.2 hS hown (hts _ hw) (fun x h => h) hd (kk g p l e s m args below meth c C H locs ls hP hS hL)
theorem rp_getSc {M : cf_M} {pc pc' idx : Nat} {lv : List (Nat × Value)} {st : List Value} {h : cf_H} {P : Option Value → cf_H → Prop} {i : Nat} {q : String × Nat × String} (hd : cf_D M pc (.getfield idx) 3 pc') (hq : cf_strs[i]? = some q) (hw : Cond.fieldLink (cf_own M) idx "java/lang/String" "coder" "B" ∈ cf_T) (kk : RP M pc' lv (.int 0 :: st) h P) : RP M pc lv (.ref (110 + i) :: st) h P := by
  intro g p l e s m args below meth c C H locs ls hP hS hL
  obtain ⟨hd, rfl⟩ := hd
  obtain ⟨hx, hb, hml, hr, hown, hts, hlk, hK, hCK, hi⟩ := id C
  exact vk_getf hx hb (hCK.2.2.1 _ _ _ _ hq).2.2.1 hS hown (hts _ hw) (fun x h => h) hd (kk g p l e s m args below meth c C H locs ls hP hS hL)
end
section
/-! CALLS -/
theorem cf_good {ws : List Cond} (h : ∀ w ∈ ws, w ∈ cf_T) : GoodIn cf_T ws := fun w hw => ⟨h w hw, good_of_word (List.mem_filter.mp (h w hw)).2⟩
theorem cf_E.at {g : cf_G} {s U : State} (hE : cf_E g s s.heap) (hq : ∀ a : Nat, a < s.heap.size → ¬ cf_A g.1 a → U.heap[a]? = s.heap[a]?) (hW : s.WarmedH U.vm) : cf_E g U U.heap := by
  obtain ⟨hK, ⟨h1, h2, h3, h4, h5, h6⟩, hi⟩ := hE
  have hvm := hW.alike
  refine ⟨va_K.moved hvm hK, ⟨fun q hm => va_Z.moved hvm ((h1 q hm).kept hq), fun k ty n f hk => va_T.moved hvm ((h2 k ty n f hk).kept hq), fun i own idx tx hi => ?_, ?_, fun a i b n d z hm => (h5 a i b n d z hm).warmF hW, fun a i x z hm => (h6 a i x z hm).warmM hW⟩, hi⟩
  · obtain ⟨a, b, c, d⟩ := h3 i own idx tx hi
    exact ⟨a.warm hW, va_O.moved hvm (b.kept hq), va_OF.moved hvm (c.kept hq), va_OF.moved hvm (d.kept hq)⟩
  · rcases h4 with h | h
    · exact Or.inl (va_Z.moved hvm (h.kept hq))
    · exact Or.inr (va_Z.moved hvm (h.kept hq))
theorem cf_E.same {g : cf_G} {U V : State} (hE : cf_E g U U.heap) (hv : V.vm = U.vm) (hh : V.heap = U.heap) : cf_E g V V.heap := by
  obtain ⟨hK, ⟨h1, h2, h3, h4, h5, h6⟩, hi⟩ := hE
  have hvm : U.vm.Alike V.vm := by rw [hv]; exact Vm.Alike.refl _
  rw [hh]
  refine ⟨va_K.moved hvm hK, ⟨fun q hm => va_Z.moved hvm (h1 q hm), fun k ty n f hk => va_T.moved hvm (h2 k ty n f hk), fun i own idx tx hi => ?_, ?_, fun a i b n d z hm => va_Nw.same rfl hv.symm (h5 a i b n d z hm), fun a i x z hm => va_Nw.same rfl hv.symm (h6 a i x z hm)⟩, hi⟩
  · obtain ⟨a, b, c, d⟩ := h3 i own idx tx hi
    exact ⟨vk_R.same hv a, va_O.moved hvm b, va_OF.moved hvm c, va_OF.moved hvm d⟩
  · rcases h4 with h | h
    · exact Or.inl (va_Z.moved hvm h)
    · exact Or.inr (va_Z.moved hvm h)
def cf_Pc (g : cf_G) (vs : List Value) (h : cf_H) : Array Value → State → Prop := fun a U => a = (vs.map (cf_tr g.1)).toArray ∧ va_P g.2.1 cf_cl (cf_ws g h) U.heap ∧ cf_E g U U.heap
theorem cf_blind (g : cf_G) (vs : List Value) (h : cf_H) : FrameBlind (cf_Pc g vs h) := fun a U gg mk q => ⟨q.1, q.2.1, cf_E.same q.2.2 rfl rfl⟩
def cf_c2 (v : Value) : Bool := match v with
  | .long _ => true
  | .double _ => true
  | _ => false
def cf_args : Nat → List Value → List (Nat × Value)
  | _, [] => []
  | i, v :: vs => (i, v) :: cf_args (bif cf_c2 v then i + 2 else i + 1) vs
theorem cf_args_mem (ad : Nat → Nat) : ∀ (vs : List Value) (i j : Nat) (v : Value), cf_lk (cf_args i vs) j = some v → (j, cf_tr ad v) ∈ lv_args i (vs.map (cf_tr ad)) := by
  intro vs
  induction vs with
  | nil => intro i j v h; cases h
  | cons w vs ih =>
    intro i j v h
    unfold cf_args cf_lk at h
    simp only [List.map_cons, lv_args]
    cases hb : Nat.beq i j with
    | true =>
      rw [hb] at h
      have : i = j := Nat.eq_of_beq_eq_true hb
      subst this
      cases h
      exact List.mem_cons_self
    | false =>
      rw [hb] at h
      refine List.mem_cons_of_mem _ ?_
      rw [cf_tr_cat]
      have := ih _ j v h
      cases w <;> exact this
theorem cf_slots (ad : Nat → Nat) : ∀ vs : List Value, (lg_sl (vs.map (cf_tr ad))).length = (vs.map Value.category).sum := by
  intro vs
  induction vs with
  | nil => rfl
  | cons v vs ih =>
    have e : lg_sl ((v :: vs).map (cf_tr ad)) = (if (cf_tr ad v).category = 2 then [.val (cf_tr ad v), .second] else [.val (cf_tr ad v)]) ++ lg_sl (vs.map (cf_tr ad)) := by
      simp [lg_sl]
    rw [e, List.length_append, ih, cf_tr_cat]
    simp only [List.map_cons, List.sum_cons]
    rcases lv_cat v with h | h <;> simp [h]
theorem cf_cats (ad : Nat → Nat) (vs : List Value) : ((vs.map (cf_tr ad)).map fun v => v.category).sum = (vs.map Value.category).sum := by
  rw [List.map_map]
  congr 1
  apply List.map_congr_left
  intro v _
  exact cf_tr_cat ad v
theorem cf_ofW {l : Launch} {y : MethodName} {ws ws' : List Cond} {rm : Room} {Pc : Array Value → State → Prop} {Qc : Array Value → State → Outcome → State → Prop} {mc ms : Nat} {free : Addr → Prop} {cc : ByteArray} {maxL : Nat} {ret : Option FieldType}
    (hy : plainFor y = true) (hw : ws = Cond.code y cc maxL ret :: ws')
    (body : ∀ p e s m args below meth c s₁, BodyLoose p l y (headSpec ws rm) cc maxL ret e s m args below meth c s₁ → c.maxLocals = maxL → Pc args s →
      W p l e (headSpec ws rm).room s m args below meth c s.heap [] 0 0 (MQ below Qc args s mc ms free) (entryFrame m args maxL)) : Met l y ws rm Pc Qc mc ms free := by
  refine MetFree.of_bodySF (code := cc) (maxLocals := maxL) (ret := ret) hy ?_ ?_
  · intro args s m h hn
    obtain ⟨meth, c, h1, h2, h3, h4, h5, h6, -, -⟩ := Cond.code_spec hn (atoms_spec (ws := ws) h _ (by rw [hw]; exact List.mem_cons_self))
    exact ⟨meth, c, h1, h2, h3, h4, h5, h6⟩
  · intro p e s m args below meth c s₁ B hml hP _
    have hh0 : s₁.heap = s.heap := by rw [B.state]; rfl
    obtain ⟨t, a1, o, b1, b2, b3⟩ := body p e s m args below meth c s₁ B hml hP s₁ hh0 (Stand.of_body B)
    exact ⟨t, o, a1, b1, b2, ⟨b3.1, b3.2⟩⟩
theorem cf_met {g : cf_G} {Y : cf_M} {vs : List Value} {h : cf_H} {P : Option Value → cf_H → Prop} (l : Launch) (hy : plainFor Y.1 = true) (hfit : (vs.map Value.category).sum ≤ cf_mL Y) (hR : RP Y 0 (cf_args 0 vs) [] h P) : Met l Y.1 (cf_wsM Y) (cf_rm Y) (cf_Pc g vs h) (cf_Qc g P) 0 0 (cf_A g.1) := by
  refine cf_ofW (cc := cf_code Y) (maxL := cf_mL Y) (ret := cf_ret Y) (ws' := cf_T) hy rfl ?_
  intro p e s m args below meth c s₁ B hml hv
  obtain ⟨rfl, hP, hE⟩ := hv
  have hts := atoms_spec (ws := cf_wsM Y) B.pre
  have hown : s.vm.findClass (cf_own Y) = some m.cls := findClass_of_methodNamed B.named
  have hl := lv_entry (vs.map (cf_tr g.1)) (n := cf_mL Y) (by rw [cf_slots]; exact hfit)
  rw [lg_entry_eq]
  exact hR g p l e s m _ below meth c ⟨B.exec, B.bytes, hml, B.returns, hown, fun w hw => hts w (List.mem_cons_of_mem _ hw), B.notSynchronized, hE⟩ s.heap [] _ hP va_S.rf ⟨_, hl, fun i v hi _ => cf_args_mem g.1 vs 0 i v hi⟩
def cf_Y (Y : cf_M) (n : Nat) : Prop := Cond.code Y.1 (cf_code Y) (cf_mL Y) (cf_ret Y) ∈ cf_T ∧ plainFor Y.1 = true ∧ (Y.1.cls ≠ "java/lang/invoke/MethodHandle" ∧ Y.1.cls ≠ "java/lang/invoke/VarHandle" ∧ (parseMethodDescriptor Y.1.desc).map (fun d => d.parameters.length) = some n) ∧ Cond.initialized Y.1.cls ∈ cf_T
def cf_cv (own : String) (idx : Nat) (Y : cf_M) : Prop := Cond.methodLink own idx Y.1 ∈ cf_T ∧ Cond.instanceMethod Y.1 ∈ cf_T ∧ Cond.selects Y.1.cls Y.1 Y.1 ∈ cf_T
def cf_cs (own : String) (idx : Nat) (Y : cf_M) : Prop := (Cond.methodLink own idx Y.1 ∈ cf_T ∨ ∃ host, Cond.methodLinkNest own idx Y.1 host ∈ lw_tbl) ∧ Cond.static Y.1 ∈ cf_T
def cf_rl (Y : cf_M) (R : Room) : Prop := (cf_rm Y).frames + 1 ≤ R.frames ∧ 8 + (cf_mL Y + 11) + (cf_rm Y).locals ≤ R.locals
def cf_rv (o : Nat) (C : String) : Prop := (∃ ci T N, cf_shl[o]? = some (.inl ci) ∧ cf_cl[ci]? = some (C, T, N)) ∨ (∃ i q, o = 110 + i ∧ cf_strs[i]? = some q ∧ C = "java/lang/String")
section CFR
variable {g : cf_G} {M Y : cf_M} {n pc idx o : Nat} {As rest : List Value} {h : cf_H} {P1 : Option Value → cf_H → Prop} {p : Program} {l : Launch} {e : Env} {R : Room} {s : State} {m : MethodId} {args : Array Value} {below : List Frame} {meth : Method} {c : Code} {H : Heap} {locs : List Loc} {cells slots : Nat} {Q : State → Prop} {ls : Array Slot}
theorem cf_callW {a : Array Value} {st0 rest' : List Value} {A0 : Nat → Prop} {H0 : Heap} (hr : va_Run p l e R s m args below meth c H locs cells slots 0 0 (F0 m pc ls st0) rest' (cf_Qc g P1 a) (cf_A g.1)) (hS : va_S A0 H0 H locs) (hA : ∀ q, cf_A g.1 q → A0 q)
    (kk : ∀ (r : Option Value) (h' : cf_H) (H1 : Heap) (locs1 : List Loc), P1 r h' → va_P g.2.1 cf_cl (cf_ws g h') H1 → va_S A0 H0 H1 locs1 → W p l e R s m args below meth c H1 locs1 cells slots Q (F0 m (pc + 3) ls ((r.map (cf_tr g.1)).toList ++ rest'))) : W p l e R s m args below meth c H locs cells slots Q (F0 m pc ls st0) := by
  intro T hT X
  obtain ⟨v, st₀, t, T', L, h0, X', hL, e1, e2, ⟨⟨r, h', hv, hp, hb⟩, hz, hk⟩, st⟩ := hr T hT X
  cases hv
  rw [h0] at hz hk
  obtain ⟨t2, a1, b1⟩ := kk r h' T'.heap (locs ++ L) hp (by rw [e1]; exact hb)
    ⟨Nat.le_trans hS.1 (by rw [e1]; exact hz), fun q h1 h2 => by rw [e1, hk q (Nat.lt_of_lt_of_le h1 hS.1) (fun z => h2 (hA q z))]; exact hS.2.1 q h1 h2, fun q hq => by
      rcases List.mem_append.mp hq with h | h
      · exact hS.2.2 q h
      · exact hA _ (hL q h)⟩ T' rfl X'
  exact ⟨t2, st t2 a1, b1⟩
theorem cf_runV (C0 : cf_C g M p s m args meth c) (hP : va_P g.2.1 cf_cl (cf_ws g h) H) (hq : ∀ a : Nat, a < s.heap.size → ¬ cf_A g.1 a → H[a]? = s.heap[a]?) (hY : cf_Y Y n) (hw : cf_cv (cf_own M) idx Y) (hR : cf_rl Y R) (hrv : cf_rv o Y.1.cls) (hlen : As.length = n) (hfit : ((Value.ref o :: As).map Value.category).sum ≤ cf_mL Y) (hst : (rest.map Value.category).sum ≤ 8) (hls : ls.size = cf_mL M)
    (hd : decode (cf_code M) pc = .ok (.invokevirtual idx, 3)) (hb : RP Y 0 (cf_args 0 (.ref o :: As)) [] h P1) (hc : cells ≤ R.cells ∧ slots ≤ R.slots) :
    va_Run p l e R s m args below meth c H locs cells slots 0 0 (F0 m pc ls ((As.map (cf_tr g.1)).reverse ++ .ref (g.1 o) :: rest.map (cf_tr g.1))) (rest.map (cf_tr g.1)) (cf_Qc g P1 (Value.ref (g.1 o) :: As.map (cf_tr g.1)).toArray) (cf_A g.1) := by
  obtain ⟨hx, hbc, hml, hr, hown, hts, hlk, hE⟩ := C0
  obtain ⟨hco, hpl, hnm, hini⟩ := hY
  obtain ⟨hl, hin, hsel⟩ := hw
  have hgood : GoodIn cf_T (wsV (cf_own M) idx Y.1.cls Y.1 (cf_wsM Y)) := cf_good (fun w hw => by
    unfold wsV at hw
    rcases List.mem_append.mp hw with hw | hw
    · simp only [List.mem_cons, List.not_mem_nil, or_false] at hw
      rcases hw with rfl | rfl | rfl | rfl
      · exact hl
      · exact hin
      · exact hsel
      · exact hini
    · rcases List.mem_cons.mp hw with rfl | hw
      · exact hco
      · exact hw)
  refine va_runV (cc := cf_code M) (nL := cf_mL M) (C := Y.1.cls) (As := As.map (cf_tr g.1)) (n := n) ⟨hx, hbc, hml, hown, hts⟩ (cf_met (g := g) (vs := .ref o :: As) l hpl hfit hb) (cwV n hts hgood rfl rfl rfl ⟨rfl, hnm⟩ hR) ⟨cf_blind _ _ _, ?_, fun U hU hW => ⟨rfl, by rw [hU]; exact hP, hE.at (by rw [hU]; exact hq) hW⟩⟩ rfl (by simpa using hlen) hls rfl (lv_room (by rw [cf_cats]; exact hst)) hd hc
  rcases hrv with ⟨ci, T, N, h1, h2⟩ | ⟨i, q, h1, h2, h3⟩
  · exact va_recv hE.1 hP h2 (cf_ws_at h1)
  · subst h1
    rw [h3]
    obtain ⟨_, hO, _⟩ := hE.2.1.2.2.1 i _ _ _ h2
    obtain ⟨cell, q1, q2, q3, q4⟩ := hO
    exact ⟨cell, by rw [hq _ (Array.getElem?_eq_some_iff.mp q1).1 q4]; exact q1, q2, q3⟩
theorem cf_runS (C0 : cf_C g M p s m args meth c) (hP : va_P g.2.1 cf_cl (cf_ws g h) H) (hq : ∀ a : Nat, a < s.heap.size → ¬ cf_A g.1 a → H[a]? = s.heap[a]?) (hY : cf_Y Y n) (hw : cf_cs (cf_own M) idx Y) (hR : cf_rl Y R) (hlen : As.length = n) (hfit : (As.map Value.category).sum ≤ cf_mL Y) (hst : (rest.map Value.category).sum ≤ 8) (hls : ls.size = cf_mL M)
    (hd : decode (cf_code M) pc = .ok (.invokestatic idx, 3)) (hb : RP Y 0 (cf_args 0 As) [] h P1) (hc : cells ≤ R.cells ∧ slots ≤ R.slots) :
    va_Run p l e R s m args below meth c H locs cells slots 0 0 (F0 m pc ls ((As.map (cf_tr g.1)).reverse ++ rest.map (cf_tr g.1))) (rest.map (cf_tr g.1)) (cf_Qc g P1 (As.map (cf_tr g.1)).toArray) (cf_A g.1) := by
  obtain ⟨hx, hbc, hml, hr, hown, hts, hlk, hE⟩ := C0
  obtain ⟨hco, hpl, hnm, hini⟩ := hY
  obtain ⟨hl, hstt⟩ := hw
  have hg0 : GoodIn cf_T (cf_wsM Y) := cf_good (fun w hw => by
    rcases List.mem_cons.mp hw with rfl | hw
    · exact hco
    · exact hw)
  have hp : PreS s H (cf_Pc g As h) (As.map (cf_tr g.1)) := ⟨cf_blind _ _ _, fun U hU hW => ⟨rfl, by rw [hU]; exact hP, hE.at (by rw [hU]; exact hq) hW⟩⟩
  rcases hl with hl | ⟨host, hl⟩
  · have hgood : GoodIn cf_T (va_wsS (cf_own M) idx Y.1 (cf_wsM Y)) := cf_good (fun w hw => by
      unfold va_wsS at hw
      rcases List.mem_append.mp hw with hw | hw
      · simp only [List.mem_cons, List.not_mem_nil, or_false] at hw
        rcases hw with rfl | rfl | rfl
        · exact hl
        · exact hstt
        · exact hini
      · exact (hg0 w hw).1)
    exact va_runS (cc := cf_code M) (nL := cf_mL M) (As := As.map (cf_tr g.1)) (n := n) ⟨hx, hbc, hml, hown, hts⟩ (cf_met (g := g) (vs := As) l hpl hfit hb) (va_cwS n hts hgood rfl rfl rfl hnm hR) hp rfl (by simpa using hlen) hls rfl (lv_room (by rw [cf_cats]; exact hst)) hd hc
  · exact va_runSN (cc := cf_code M) (nL := cf_mL M) (As := As.map (cf_tr g.1)) (n := n) ⟨hx, hbc, hml, hown, hts⟩ (cf_met (g := g) (vs := As) l hpl hfit hb) ⟨va_cnB n hts hg0 rfl rfl rfl (hE.2.1.2.2.2.2.2 _ _ _ _ hl) (hts _ hini) hnm hR, hts _ hstt, trivial⟩ hp rfl (by simpa using hlen) hls rfl (lv_room (by rw [cf_cats]; exact hst)) hd hc
end CFR
def cf_push (r : Option Value) (st : List Value) : List Value := match r with
  | some v => v :: st
  | none => st
theorem cf_push_tr (ad : Nat → Nat) (r : Option Value) (st : List Value) : (r.map (cf_tr ad)).toList ++ st.map (cf_tr ad) = (cf_push r st).map (cf_tr ad) := by cases r <;> rfl
def cf_qv (M : cf_M) (idx : Nat) (Y : cf_M) (n : Nat) : Prop := cf_cv (cf_own M) idx Y ∧ cf_Y Y n ∧ cf_rl Y (cf_rm M)
def cf_qs (M : cf_M) (idx : Nat) (Y : cf_M) (n : Nat) : Prop := cf_cs (cf_own M) idx Y ∧ cf_Y Y n ∧ cf_rl Y (cf_rm M)
theorem rp_callV {M Y : cf_M} {pc pc' idx o n : Nat} {lv : List (Nat × Value)} {st As : List Value} {h : cf_H} {P : Option Value → cf_H → Prop} (hd : cf_D M pc (.invokevirtual idx) 3 pc') (hw : cf_qv M idx Y n) (hrv : cf_rv o Y.1.cls) (hlen : As.length = n) (hfit : ((Value.ref o :: As).map Value.category).sum ≤ cf_mL Y) (hst : (st.map Value.category).sum ≤ 8)
    (k : RP Y 0 (cf_args 0 (.ref o :: As)) [] h (fun r h' => RP M pc' lv (cf_push r st) h' P)) : RP M pc lv (As.reverse ++ .ref o :: st) h P := by
  intro g p l e s m args below meth c C H locs ls hP hS hL
  obtain ⟨hd, rfl⟩ := hd
  obtain ⟨hw, hY, hR⟩ := hw
  have hls : ls.size = cf_mL M := by obtain ⟨_, h1, _⟩ := hL; exact h1.1
  have hr := cf_runV (l := l) (e := e) (below := below) (locs := locs) (cells := 0) (slots := 0) (R := cf_rm M) C hP hS.2.1 hY hw hR hrv hlen hfit hst hls hd k ⟨Nat.zero_le _, Nat.zero_le _⟩
  have e1 : (As.reverse ++ .ref o :: st).map (cf_tr g.1) = (As.map (cf_tr g.1)).reverse ++ .ref (g.1 o) :: st.map (cf_tr g.1) := by simp [cf_tr]
  rw [e1]
  refine cf_callW hr hS (fun _ z => z) (fun r h' H1 locs1 q1 q2 q3 => ?_)
  rw [cf_push_tr]
  exact q1 g p l e s m args below meth c C H1 locs1 ls q2 q3 hL
theorem rp_callS {M Y : cf_M} {pc pc' idx n : Nat} {lv : List (Nat × Value)} {st As : List Value} {h : cf_H} {P : Option Value → cf_H → Prop} (hd : cf_D M pc (.invokestatic idx) 3 pc') (hw : cf_qs M idx Y n) (hlen : As.length = n) (hfit : (As.map Value.category).sum ≤ cf_mL Y) (hst : (st.map Value.category).sum ≤ 8)
    (k : RP Y 0 (cf_args 0 As) [] h (fun r h' => RP M pc' lv (cf_push r st) h' P)) : RP M pc lv (As.reverse ++ st) h P := by
  intro g p l e s m args below meth c C H locs ls hP hS hL
  obtain ⟨hd, rfl⟩ := hd
  obtain ⟨hw, hY, hR⟩ := hw
  have hls : ls.size = cf_mL M := by obtain ⟨_, h1, _⟩ := hL; exact h1.1
  have hr := cf_runS (l := l) (e := e) (below := below) (locs := locs) (cells := 0) (slots := 0) (R := cf_rm M) C hP hS.2.1 hY hw hR hlen hfit hst hls hd k ⟨Nat.zero_le _, Nat.zero_le _⟩
  have e1 : (As.reverse ++ st).map (cf_tr g.1) = (As.map (cf_tr g.1)).reverse ++ st.map (cf_tr g.1) := by simp
  rw [e1]
  refine cf_callW hr hS (fun _ z => z) (fun r h' H1 locs1 q1 q2 q3 => ?_)
  rw [cf_push_tr]
  exact q1 g p l e s m args below meth c C H1 locs1 ls q2 q3 hL

theorem rp_callV0 {M Y : cf_M} {pc pc' idx o : Nat} {lv : List (Nat × Value)} {st : List Value} {h : cf_H} {P : Option Value → cf_H → Prop} (hd : cf_D M pc (.invokevirtual idx) 3 pc') (hw : cf_qv M idx Y 0) (hrv : cf_rv o Y.1.cls) (hfit : (([.ref o] : List Value).map Value.category).sum ≤ cf_mL Y) (hst : (st.map Value.category).sum ≤ 8) (k : RP Y 0 (cf_args 0 [.ref o]) [] h (fun r h' => RP M pc' lv (cf_push r st) h' P)) : RP M pc lv (.ref o :: st) h P := rp_callV (As := []) hd hw hrv rfl hfit hst k
theorem rp_callV1 {M Y : cf_M} {pc pc' idx o : Nat} {lv : List (Nat × Value)} {st : List Value} {a1 : Value} {h : cf_H} {P : Option Value → cf_H → Prop} (hd : cf_D M pc (.invokevirtual idx) 3 pc') (hw : cf_qv M idx Y 1) (hrv : cf_rv o Y.1.cls) (hfit : (([.ref o, a1] : List Value).map Value.category).sum ≤ cf_mL Y) (hst : (st.map Value.category).sum ≤ 8) (k : RP Y 0 (cf_args 0 [.ref o, a1]) [] h (fun r h' => RP M pc' lv (cf_push r st) h' P)) : RP M pc lv (a1 :: .ref o :: st) h P := rp_callV (As := [a1]) hd hw hrv rfl hfit hst k
theorem rp_callS1 {M Y : cf_M} {pc pc' idx : Nat} {lv : List (Nat × Value)} {st : List Value} {a1 : Value} {h : cf_H} {P : Option Value → cf_H → Prop} (hd : cf_D M pc (.invokestatic idx) 3 pc') (hw : cf_qs M idx Y 1) (hfit : (([a1] : List Value).map Value.category).sum ≤ cf_mL Y) (hst : (st.map Value.category).sum ≤ 8) (k : RP Y 0 (cf_args 0 [a1]) [] h (fun r h' => RP M pc' lv (cf_push r st) h' P)) : RP M pc lv (a1 :: st) h P := rp_callS (As := [a1]) hd hw rfl hfit hst k
theorem rp_callV2 {M Y : cf_M} {pc pc' idx o : Nat} {lv : List (Nat × Value)} {st : List Value} {a1 a2 : Value} {h : cf_H} {P : Option Value → cf_H → Prop} (hd : cf_D M pc (.invokevirtual idx) 3 pc') (hw : cf_qv M idx Y 2) (hrv : cf_rv o Y.1.cls) (hfit : (([.ref o, a1, a2] : List Value).map Value.category).sum ≤ cf_mL Y) (hst : (st.map Value.category).sum ≤ 8) (k : RP Y 0 (cf_args 0 [.ref o, a1, a2]) [] h (fun r h' => RP M pc' lv (cf_push r st) h' P)) : RP M pc lv (a2 :: a1 :: .ref o :: st) h P := rp_callV (As := [a1, a2]) hd hw hrv rfl hfit hst k
theorem rp_callS2 {M Y : cf_M} {pc pc' idx : Nat} {lv : List (Nat × Value)} {st : List Value} {a1 a2 : Value} {h : cf_H} {P : Option Value → cf_H → Prop} (hd : cf_D M pc (.invokestatic idx) 3 pc') (hw : cf_qs M idx Y 2) (hfit : (([a1, a2] : List Value).map Value.category).sum ≤ cf_mL Y) (hst : (st.map Value.category).sum ≤ 8) (k : RP Y 0 (cf_args 0 [a1, a2]) [] h (fun r h' => RP M pc' lv (cf_push r st) h' P)) : RP M pc lv (a2 :: a1 :: st) h P := rp_callS (As := [a1, a2]) hd hw rfl hfit hst k
theorem rp_callV3 {M Y : cf_M} {pc pc' idx o : Nat} {lv : List (Nat × Value)} {st : List Value} {a1 a2 a3 : Value} {h : cf_H} {P : Option Value → cf_H → Prop} (hd : cf_D M pc (.invokevirtual idx) 3 pc') (hw : cf_qv M idx Y 3) (hrv : cf_rv o Y.1.cls) (hfit : (([.ref o, a1, a2, a3] : List Value).map Value.category).sum ≤ cf_mL Y) (hst : (st.map Value.category).sum ≤ 8) (k : RP Y 0 (cf_args 0 [.ref o, a1, a2, a3]) [] h (fun r h' => RP M pc' lv (cf_push r st) h' P)) : RP M pc lv (a3 :: a2 :: a1 :: .ref o :: st) h P := rp_callV (As := [a1, a2, a3]) hd hw hrv rfl hfit hst k
theorem rp_callS3 {M Y : cf_M} {pc pc' idx : Nat} {lv : List (Nat × Value)} {st : List Value} {a1 a2 a3 : Value} {h : cf_H} {P : Option Value → cf_H → Prop} (hd : cf_D M pc (.invokestatic idx) 3 pc') (hw : cf_qs M idx Y 3) (hfit : (([a1, a2, a3] : List Value).map Value.category).sum ≤ cf_mL Y) (hst : (st.map Value.category).sum ≤ 8) (k : RP Y 0 (cf_args 0 [a1, a2, a3]) [] h (fun r h' => RP M pc' lv (cf_push r st) h' P)) : RP M pc lv (a3 :: a2 :: a1 :: st) h P := rp_callS (As := [a1, a2, a3]) hd hw rfl hfit hst k
theorem rp_callV4 {M Y : cf_M} {pc pc' idx o : Nat} {lv : List (Nat × Value)} {st : List Value} {a1 a2 a3 a4 : Value} {h : cf_H} {P : Option Value → cf_H → Prop} (hd : cf_D M pc (.invokevirtual idx) 3 pc') (hw : cf_qv M idx Y 4) (hrv : cf_rv o Y.1.cls) (hfit : (([.ref o, a1, a2, a3, a4] : List Value).map Value.category).sum ≤ cf_mL Y) (hst : (st.map Value.category).sum ≤ 8) (k : RP Y 0 (cf_args 0 [.ref o, a1, a2, a3, a4]) [] h (fun r h' => RP M pc' lv (cf_push r st) h' P)) : RP M pc lv (a4 :: a3 :: a2 :: a1 :: .ref o :: st) h P := rp_callV (As := [a1, a2, a3, a4]) hd hw hrv rfl hfit hst k
theorem rp_callS4 {M Y : cf_M} {pc pc' idx : Nat} {lv : List (Nat × Value)} {st : List Value} {a1 a2 a3 a4 : Value} {h : cf_H} {P : Option Value → cf_H → Prop} (hd : cf_D M pc (.invokestatic idx) 3 pc') (hw : cf_qs M idx Y 4) (hfit : (([a1, a2, a3, a4] : List Value).map Value.category).sum ≤ cf_mL Y) (hst : (st.map Value.category).sum ≤ 8) (k : RP Y 0 (cf_args 0 [a1, a2, a3, a4]) [] h (fun r h' => RP M pc' lv (cf_push r st) h' P)) : RP M pc lv (a4 :: a3 :: a2 :: a1 :: st) h P := rp_callS (As := [a1, a2, a3, a4]) hd hw rfl hfit hst k
theorem rp_callV5 {M Y : cf_M} {pc pc' idx o : Nat} {lv : List (Nat × Value)} {st : List Value} {a1 a2 a3 a4 a5 : Value} {h : cf_H} {P : Option Value → cf_H → Prop} (hd : cf_D M pc (.invokevirtual idx) 3 pc') (hw : cf_qv M idx Y 5) (hrv : cf_rv o Y.1.cls) (hfit : (([.ref o, a1, a2, a3, a4, a5] : List Value).map Value.category).sum ≤ cf_mL Y) (hst : (st.map Value.category).sum ≤ 8) (k : RP Y 0 (cf_args 0 [.ref o, a1, a2, a3, a4, a5]) [] h (fun r h' => RP M pc' lv (cf_push r st) h' P)) : RP M pc lv (a5 :: a4 :: a3 :: a2 :: a1 :: .ref o :: st) h P := rp_callV (As := [a1, a2, a3, a4, a5]) hd hw hrv rfl hfit hst k
theorem rp_callS5 {M Y : cf_M} {pc pc' idx : Nat} {lv : List (Nat × Value)} {st : List Value} {a1 a2 a3 a4 a5 : Value} {h : cf_H} {P : Option Value → cf_H → Prop} (hd : cf_D M pc (.invokestatic idx) 3 pc') (hw : cf_qs M idx Y 5) (hfit : (([a1, a2, a3, a4, a5] : List Value).map Value.category).sum ≤ cf_mL Y) (hst : (st.map Value.category).sum ≤ 8) (k : RP Y 0 (cf_args 0 [a1, a2, a3, a4, a5]) [] h (fun r h' => RP M pc' lv (cf_push r st) h' P)) : RP M pc lv (a5 :: a4 :: a3 :: a2 :: a1 :: st) h P := rp_callS (As := [a1, a2, a3, a4, a5]) hd hw rfl hfit hst k
end
section
/-! methods -/
def k_fmt_feed : cf_M := (⟨"CellFormatter", "feed", "(C)Z"⟩, prog_1_method_2_code, 2, some .boolean, 0, 0)
theorem y_fmt_feed : cf_Y k_fmt_feed 1 := ⟨cf_in 363 (by decide +kernel) (by decide +kernel), by decide +kernel, ⟨by decide +kernel, by decide +kernel, by decide +kernel⟩, cf_in 86 (by decide +kernel) (by decide +kernel)⟩
def k_fmt_erase : cf_M := (⟨"CellFormatter", "erase", "()V"⟩, prog_1_method_3_code, 1, none, 0, 0)
theorem y_fmt_erase : cf_Y k_fmt_erase 0 := ⟨cf_in 367 (by decide +kernel) (by decide +kernel), by decide +kernel, ⟨by decide +kernel, by decide +kernel, by decide +kernel⟩, cf_in 86 (by decide +kernel) (by decide +kernel)⟩
def k_fmt_compile : cf_M := (⟨"CellFormatter", "compile", "()I"⟩, prog_1_method_4_code, 4, some .int, 7, 159)
theorem y_fmt_compile : cf_Y k_fmt_compile 0 := ⟨cf_in 371 (by decide +kernel) (by decide +kernel), by decide +kernel, ⟨by decide +kernel, by decide +kernel, by decide +kernel⟩, cf_in 86 (by decide +kernel) (by decide +kernel)⟩
def k_scn_scan : cf_M := (⟨"CellFormatter$Scanner", "scan", "([CI)I"⟩, prog_6_method_2_code, 5, some .int, 6, 135)
theorem y_scn_scan : cf_Y k_scn_scan 2 := ⟨cf_in 375 (by decide +kernel) (by decide +kernel), by decide +kernel, ⟨by decide +kernel, by decide +kernel, by decide +kernel⟩, cf_in 88 (by decide +kernel) (by decide +kernel)⟩
def k_math_min : cf_M := (⟨"java/lang/Math", "min", "(II)I"⟩, prog_13_method_69_code, 2, some .int, 0, 0)
theorem y_math_min : cf_Y k_math_min 2 := ⟨cf_in 378 (by decide +kernel) (by decide +kernel), by decide +kernel, ⟨by decide +kernel, by decide +kernel, by decide +kernel⟩, cf_in 96 (by decide +kernel) (by decide +kernel)⟩
def k_tok_clear : cf_M := (⟨"CellFormatter$Tokens", "clear", "()V"⟩, prog_9_method_2_code, 1, none, 0, 0)
theorem y_tok_clear : cf_Y k_tok_clear 0 := ⟨cf_in 382 (by decide +kernel) (by decide +kernel), by decide +kernel, ⟨by decide +kernel, by decide +kernel, by decide +kernel⟩, cf_in 87 (by decide +kernel) (by decide +kernel)⟩
def k_scn_scanToken : cf_M := (⟨"CellFormatter$Scanner", "scanToken", "(I)I"⟩, prog_6_method_4_code, 3, some .int, 5, 113)
theorem y_scn_scanToken : cf_Y k_scn_scanToken 1 := ⟨cf_in 386 (by decide +kernel) (by decide +kernel), by decide +kernel, ⟨by decide +kernel, by decide +kernel, by decide +kernel⟩, cf_in 88 (by decide +kernel) (by decide +kernel)⟩
def k_scn_at : cf_M := (⟨"CellFormatter$Scanner", "at", "(I)C"⟩, prog_6_method_3_code, 2, some .char, 0, 0)
theorem y_scn_at : cf_Y k_scn_at 1 := ⟨cf_in 390 (by decide +kernel) (by decide +kernel), by decide +kernel, ⟨by decide +kernel, by decide +kernel, by decide +kernel⟩, cf_in 88 (by decide +kernel) (by decide +kernel)⟩
def k_scn_scanQuoted : cf_M := (⟨"CellFormatter$Scanner", "scanQuoted", "(I)I"⟩, prog_6_method_5_code, 4, some .int, 1, 23)
theorem y_scn_scanQuoted : cf_Y k_scn_scanQuoted 1 := ⟨cf_in 394 (by decide +kernel) (by decide +kernel), by decide +kernel, ⟨by decide +kernel, by decide +kernel, by decide +kernel⟩, cf_in 88 (by decide +kernel) (by decide +kernel)⟩
def k_tok_add : cf_M := (⟨"CellFormatter$Tokens", "add", "(III)V"⟩, prog_9_method_3_code, 4, none, 0, 0)
theorem y_tok_add : cf_Y k_tok_add 3 := ⟨cf_in 398 (by decide +kernel) (by decide +kernel), by decide +kernel, ⟨by decide +kernel, by decide +kernel, by decide +kernel⟩, cf_in 87 (by decide +kernel) (by decide +kernel)⟩
def k_scn_scanEscaped : cf_M := (⟨"CellFormatter$Scanner", "scanEscaped", "(I)I"⟩, prog_6_method_6_code, 2, some .int, 1, 23)
theorem y_scn_scanEscaped : cf_Y k_scn_scanEscaped 1 := ⟨cf_in 402 (by decide +kernel) (by decide +kernel), by decide +kernel, ⟨by decide +kernel, by decide +kernel, by decide +kernel⟩, cf_in 88 (by decide +kernel) (by decide +kernel)⟩
def k_scn_scanBracket : cf_M := (⟨"CellFormatter$Scanner", "scanBracket", "(I)I"⟩, prog_6_method_7_code, 3, some .int, 4, 91)
theorem y_scn_scanBracket : cf_Y k_scn_scanBracket 1 := ⟨cf_in 406 (by decide +kernel) (by decide +kernel), by decide +kernel, ⟨by decide +kernel, by decide +kernel, by decide +kernel⟩, cf_in 88 (by decide +kernel) (by decide +kernel)⟩
def k_str_indexOf_I : cf_M := (⟨"java/lang/String", "indexOf", "(I)I"⟩, prog_14_method_79_code, 2, some .int, 3, 70)
theorem y_str_indexOf_I : cf_Y k_str_indexOf_I 1 := ⟨cf_in 411 (by decide +kernel) (by decide +kernel), by decide +kernel, ⟨by decide +kernel, by decide +kernel, by decide +kernel⟩, cf_in 97 (by decide +kernel) (by decide +kernel)⟩
def k_str_indexOf_II : cf_M := (⟨"java/lang/String", "indexOf", "(II)I"⟩, prog_14_method_80_code, 3, some .int, 2, 48)
theorem y_str_indexOf_II : cf_Y k_str_indexOf_II 2 := ⟨cf_in 415 (by decide +kernel) (by decide +kernel), by decide +kernel, ⟨by decide +kernel, by decide +kernel, by decide +kernel⟩, cf_in 97 (by decide +kernel) (by decide +kernel)⟩
def k_str_isLatin1 : cf_M := (⟨"java/lang/String", "isLatin1", "()Z"⟩, prog_14_method_154_code, 1, some .boolean, 0, 0)
theorem y_str_isLatin1 : cf_Y k_str_isLatin1 0 := ⟨cf_in 419 (by decide +kernel) (by decide +kernel), by decide +kernel, ⟨by decide +kernel, by decide +kernel, by decide +kernel⟩, cf_in 97 (by decide +kernel) (by decide +kernel)⟩
def k_str_length : cf_M := (⟨"java/lang/String", "length", "()I"⟩, prog_14_method_54_code, 1, some .int, 1, 20)
theorem y_str_length : cf_Y k_str_length 0 := ⟨cf_in 425 (by decide +kernel) (by decide +kernel), by decide +kernel, ⟨by decide +kernel, by decide +kernel, by decide +kernel⟩, cf_in 97 (by decide +kernel) (by decide +kernel)⟩
def k_str_coder : cf_M := (⟨"java/lang/String", "coder", "()B"⟩, prog_14_method_152_code, 1, some .byte, 0, 0)
theorem y_str_coder : cf_Y k_str_coder 0 := ⟨cf_in 429 (by decide +kernel) (by decide +kernel), by decide +kernel, ⟨by decide +kernel, by decide +kernel, by decide +kernel⟩, cf_in 97 (by decide +kernel) (by decide +kernel)⟩
def k_sla_indexOf : cf_M := (⟨"java/lang/StringLatin1", "indexOf", "([BIII)I"⟩, prog_15_method_22_code, 4, some .int, 1, 25)
theorem y_sla_indexOf : cf_Y k_sla_indexOf 4 := ⟨cf_in 432 (by decide +kernel) (by decide +kernel), by decide +kernel, ⟨by decide +kernel, by decide +kernel, by decide +kernel⟩, cf_in 98 (by decide +kernel) (by decide +kernel)⟩
def k_sla_canEncode : cf_M := (⟨"java/lang/StringLatin1", "canEncode", "(I)Z"⟩, prog_15_method_4_code, 1, some .boolean, 0, 0)
theorem y_sla_canEncode : cf_Y k_sla_canEncode 1 := ⟨cf_in 435 (by decide +kernel) (by decide +kernel), by decide +kernel, ⟨by decide +kernel, by decide +kernel, by decide +kernel⟩, cf_in 98 (by decide +kernel) (by decide +kernel)⟩
def k_math_max : cf_M := (⟨"java/lang/Math", "max", "(II)I"⟩, prog_13_method_65_code, 2, some .int, 0, 0)
theorem y_math_max : cf_Y k_math_max 2 := ⟨cf_in 438 (by decide +kernel) (by decide +kernel), by decide +kernel, ⟨by decide +kernel, by decide +kernel, by decide +kernel⟩, cf_in 96 (by decide +kernel) (by decide +kernel)⟩
def k_sla_indexOfChar : cf_M := (⟨"java/lang/StringLatin1", "indexOfChar", "([BIII)I"⟩, prog_15_method_23_code, 6, some .int, 0, 0)
theorem y_sla_indexOfChar : cf_Y k_sla_indexOfChar 4 := ⟨cf_in 442 (by decide +kernel) (by decide +kernel), by decide +kernel, ⟨by decide +kernel, by decide +kernel, by decide +kernel⟩, cf_in 98 (by decide +kernel) (by decide +kernel)⟩
def k_str_checkBoundsBeginEnd : cf_M := (⟨"java/lang/String", "checkBoundsBeginEnd", "(III)V"⟩, prog_14_method_158_code, 3, none, 1, 23)
theorem y_str_checkBoundsBeginEnd : cf_Y k_str_checkBoundsBeginEnd 3 := ⟨cf_in 460 (by decide +kernel) (by decide +kernel), by decide +kernel, ⟨by decide +kernel, by decide +kernel, by decide +kernel⟩, cf_in 97 (by decide +kernel) (by decide +kernel)⟩
def k_pre_checkFromToIndex : cf_M := (⟨"jdk/internal/util/Preconditions", "checkFromToIndex", "(IIILjava/util/function/BiFunction;)I"⟩, prog_17_method_12_code, 4, some .int, 0, 0)
theorem y_pre_checkFromToIndex : cf_Y k_pre_checkFromToIndex 4 := ⟨cf_in 465 (by decide +kernel) (by decide +kernel), by decide +kernel, ⟨by decide +kernel, by decide +kernel, by decide +kernel⟩, cf_in 100 (by decide +kernel) (by decide +kernel)⟩
def k_scn_scanCondition : cf_M := (⟨"CellFormatter$Scanner", "scanCondition", "(I)I"⟩, prog_6_method_8_code, 8, some .int, 2, 44)
theorem y_scn_scanCondition : cf_Y k_scn_scanCondition 1 := ⟨cf_in 495 (by decide +kernel) (by decide +kernel), by decide +kernel, ⟨by decide +kernel, by decide +kernel, by decide +kernel⟩, cf_in 88 (by decide +kernel) (by decide +kernel)⟩
def k_scn_testAt : cf_M := (⟨"CellFormatter$Scanner", "testAt", "(I)I"⟩, prog_6_method_9_code, 4, some .int, 1, 21)
theorem y_scn_testAt : cf_Y k_scn_testAt 1 := ⟨cf_in 499 (by decide +kernel) (by decide +kernel), by decide +kernel, ⟨by decide +kernel, by decide +kernel, by decide +kernel⟩, cf_in 88 (by decide +kernel) (by decide +kernel)⟩
def k_scn_isDigit : cf_M := (⟨"CellFormatter$Scanner", "isDigit", "(C)Z"⟩, prog_6_method_10_code, 2, some .boolean, 0, 0)
theorem y_scn_isDigit : cf_Y k_scn_isDigit 1 := ⟨cf_in 503 (by decide +kernel) (by decide +kernel), by decide +kernel, ⟨by decide +kernel, by decide +kernel, by decide +kernel⟩, cf_in 88 (by decide +kernel) (by decide +kernel)⟩
def k_scn_scanExponent : cf_M := (⟨"CellFormatter$Scanner", "scanExponent", "(I)I"⟩, prog_6_method_11_code, 3, some .int, 1, 23)
theorem y_scn_scanExponent : cf_Y k_scn_scanExponent 1 := ⟨cf_in 507 (by decide +kernel) (by decide +kernel), by decide +kernel, ⟨by decide +kernel, by decide +kernel, by decide +kernel⟩, cf_in 88 (by decide +kernel) (by decide +kernel)⟩
def k_scn_scanMeridiem : cf_M := (⟨"CellFormatter$Scanner", "scanMeridiem", "(I)I"⟩, prog_6_method_12_code, 3, some .int, 4, 85)
theorem y_scn_scanMeridiem : cf_Y k_scn_scanMeridiem 1 := ⟨cf_in 511 (by decide +kernel) (by decide +kernel), by decide +kernel, ⟨by decide +kernel, by decide +kernel, by decide +kernel⟩, cf_in 88 (by decide +kernel) (by decide +kernel)⟩
def k_str_charAt : cf_M := (⟨"java/lang/String", "charAt", "(I)C"⟩, prog_14_method_56_code, 2, some .char, 3, 64)
theorem y_str_charAt : cf_Y k_str_charAt 1 := ⟨cf_in 517 (by decide +kernel) (by decide +kernel), by decide +kernel, ⟨by decide +kernel, by decide +kernel, by decide +kernel⟩, cf_in 97 (by decide +kernel) (by decide +kernel)⟩
def k_sla_charAt : cf_M := (⟨"java/lang/StringLatin1", "charAt", "([BI)C"⟩, prog_15_method_2_code, 2, some .char, 2, 43)
theorem y_sla_charAt : cf_Y k_sla_charAt 2 := ⟨cf_in 520 (by decide +kernel) (by decide +kernel), by decide +kernel, ⟨by decide +kernel, by decide +kernel, by decide +kernel⟩, cf_in 98 (by decide +kernel) (by decide +kernel)⟩
def k_str_checkIndex : cf_M := (⟨"java/lang/String", "checkIndex", "(II)V"⟩, prog_14_method_155_code, 2, none, 1, 22)
theorem y_str_checkIndex : cf_Y k_str_checkIndex 2 := ⟨cf_in 523 (by decide +kernel) (by decide +kernel), by decide +kernel, ⟨by decide +kernel, by decide +kernel, by decide +kernel⟩, cf_in 97 (by decide +kernel) (by decide +kernel)⟩
def k_pre_checkIndex : cf_M := (⟨"jdk/internal/util/Preconditions", "checkIndex", "(IILjava/util/function/BiFunction;)I"⟩, prog_17_method_11_code, 3, some .int, 0, 0)
theorem y_pre_checkIndex : cf_Y k_pre_checkIndex 3 := ⟨cf_in 526 (by decide +kernel) (by decide +kernel), by decide +kernel, ⟨by decide +kernel, by decide +kernel, by decide +kernel⟩, cf_in 100 (by decide +kernel) (by decide +kernel)⟩
def k_scn_scanField : cf_M := (⟨"CellFormatter$Scanner", "scanField", "(I)I"⟩, prog_6_method_13_code, 5, some .int, 1, 23)
theorem y_scn_scanField : cf_Y k_scn_scanField 1 := ⟨cf_in 538 (by decide +kernel) (by decide +kernel), by decide +kernel, ⟨by decide +kernel, by decide +kernel, by decide +kernel⟩, cf_in 88 (by decide +kernel) (by decide +kernel)⟩
def k_scn_isFieldLength : cf_M := (⟨"CellFormatter$Scanner", "isFieldLength", "(CI)Z"⟩, prog_6_method_14_code, 3, some .boolean, 0, 0)
theorem y_scn_isFieldLength : cf_Y k_scn_isFieldLength 2 := ⟨cf_in 542 (by decide +kernel) (by decide +kernel), by decide +kernel, ⟨by decide +kernel, by decide +kernel, by decide +kernel⟩, cf_in 88 (by decide +kernel) (by decide +kernel)⟩
def k_scn_scanSingle : cf_M := (⟨"CellFormatter$Scanner", "scanSingle", "(C)I"⟩, prog_6_method_15_code, 2, some .int, 4, 91)
theorem y_scn_scanSingle : cf_Y k_scn_scanSingle 1 := ⟨cf_in 546 (by decide +kernel) (by decide +kernel), by decide +kernel, ⟨by decide +kernel, by decide +kernel, by decide +kernel⟩, cf_in 88 (by decide +kernel) (by decide +kernel)⟩
def k_tok_count : cf_M := (⟨"CellFormatter$Tokens", "count", "(III)I"⟩, prog_9_method_9_code, 6, some .int, 1, 21)
theorem y_tok_count : cf_Y k_tok_count 3 := ⟨cf_in 552 (by decide +kernel) (by decide +kernel), by decide +kernel, ⟨by decide +kernel, by decide +kernel, by decide +kernel⟩, cf_in 87 (by decide +kernel) (by decide +kernel)⟩
def k_tok_typeAt : cf_M := (⟨"CellFormatter$Tokens", "typeAt", "(I)I"⟩, prog_9_method_4_code, 2, some .int, 0, 0)
theorem y_tok_typeAt : cf_Y k_tok_typeAt 1 := ⟨cf_in 556 (by decide +kernel) (by decide +kernel), by decide +kernel, ⟨by decide +kernel, by decide +kernel, by decide +kernel⟩, cf_in 87 (by decide +kernel) (by decide +kernel)⟩
def k_fmt_readParts : cf_M := (⟨"CellFormatter", "readParts", "(I)I"⟩, prog_1_method_13_code, 5, some .int, 5, 116)
theorem y_fmt_readParts : cf_Y k_fmt_readParts 1 := ⟨cf_in 560 (by decide +kernel) (by decide +kernel), by decide +kernel, ⟨by decide +kernel, by decide +kernel, by decide +kernel⟩, cf_in 86 (by decide +kernel) (by decide +kernel)⟩
def k_tok_find : cf_M := (⟨"CellFormatter$Tokens", "find", "(III)I"⟩, prog_9_method_10_code, 5, some .int, 1, 21)
theorem y_tok_find : cf_Y k_tok_find 3 := ⟨cf_in 564 (by decide +kernel) (by decide +kernel), by decide +kernel, ⟨by decide +kernel, by decide +kernel, by decide +kernel⟩, cf_in 87 (by decide +kernel) (by decide +kernel)⟩
def k_sec_read : cf_M := (⟨"CellFormatter$Section", "read", "(LCellFormatter$Tokens;II)Z"⟩, prog_7_method_2_code, 5, some .boolean, 4, 92)
theorem y_sec_read : cf_Y k_sec_read 3 := ⟨cf_in 568 (by decide +kernel) (by decide +kernel), by decide +kernel, ⟨by decide +kernel, by decide +kernel, by decide +kernel⟩, cf_in 89 (by decide +kernel) (by decide +kernel)⟩
def k_sec_countFields : cf_M := (⟨"CellFormatter$Section", "countFields", "(LCellFormatter$Tokens;)I"⟩, prog_7_method_6_code, 4, some .int, 2, 43)
theorem y_sec_countFields : cf_Y k_sec_countFields 1 := ⟨cf_in 573 (by decide +kernel) (by decide +kernel), by decide +kernel, ⟨by decide +kernel, by decide +kernel, by decide +kernel⟩, cf_in 89 (by decide +kernel) (by decide +kernel)⟩
def k_tok_isField : cf_M := (⟨"CellFormatter$Tokens", "isField", "(I)Z"⟩, prog_9_method_8_code, 3, some .boolean, 1, 21)
theorem y_tok_isField : cf_Y k_tok_isField 1 := ⟨cf_in 577 (by decide +kernel) (by decide +kernel), by decide +kernel, ⟨by decide +kernel, by decide +kernel, by decide +kernel⟩, cf_in 87 (by decide +kernel) (by decide +kernel)⟩
def k_sec_readCondition : cf_M := (⟨"CellFormatter$Section", "readCondition", "(LCellFormatter$Tokens;)Z"⟩, prog_7_method_8_code, 3, some .boolean, 2, 46)
theorem y_sec_readCondition : cf_Y k_sec_readCondition 1 := ⟨cf_in 581 (by decide +kernel) (by decide +kernel), by decide +kernel, ⟨by decide +kernel, by decide +kernel, by decide +kernel⟩, cf_in 89 (by decide +kernel) (by decide +kernel)⟩
def k_tok_detailAt : cf_M := (⟨"CellFormatter$Tokens", "detailAt", "(I)I"⟩, prog_9_method_6_code, 2, some .int, 0, 0)
theorem y_tok_detailAt : cf_Y k_tok_detailAt 1 := ⟨cf_in 586 (by decide +kernel) (by decide +kernel), by decide +kernel, ⟨by decide +kernel, by decide +kernel, by decide +kernel⟩, cf_in 87 (by decide +kernel) (by decide +kernel)⟩
def k_tok_valueAt : cf_M := (⟨"CellFormatter$Tokens", "valueAt", "(I)I"⟩, prog_9_method_5_code, 2, some .int, 0, 0)
theorem y_tok_valueAt : cf_Y k_tok_valueAt 1 := ⟨cf_in 590 (by decide +kernel) (by decide +kernel), by decide +kernel, ⟨by decide +kernel, by decide +kernel, by decide +kernel⟩, cf_in 87 (by decide +kernel) (by decide +kernel)⟩
def k_sec_readNumber : cf_M := (⟨"CellFormatter$Section", "readNumber", "(LCellFormatter$Tokens;)Z"⟩, prog_7_method_9_code, 4, some .boolean, 3, 69)
theorem y_sec_readNumber : cf_Y k_sec_readNumber 1 := ⟨cf_in 595 (by decide +kernel) (by decide +kernel), by decide +kernel, ⟨by decide +kernel, by decide +kernel, by decide +kernel⟩, cf_in 89 (by decide +kernel) (by decide +kernel)⟩
def k_sec_hasExponent : cf_M := (⟨"CellFormatter$Section", "hasExponent", "()Z"⟩, prog_7_method_5_code, 1, some .boolean, 0, 0)
theorem y_sec_hasExponent : cf_Y k_sec_hasExponent 0 := ⟨cf_in 600 (by decide +kernel) (by decide +kernel), by decide +kernel, ⟨by decide +kernel, by decide +kernel, by decide +kernel⟩, cf_in 89 (by decide +kernel) (by decide +kernel)⟩
def k_sec_readCommas : cf_M := (⟨"CellFormatter$Section", "readCommas", "(LCellFormatter$Tokens;)Z"⟩, prog_7_method_10_code, 5, some .boolean, 2, 45)
theorem y_sec_readCommas : cf_Y k_sec_readCommas 1 := ⟨cf_in 604 (by decide +kernel) (by decide +kernel), by decide +kernel, ⟨by decide +kernel, by decide +kernel, by decide +kernel⟩, cf_in 89 (by decide +kernel) (by decide +kernel)⟩
def k_tok_findLast : cf_M := (⟨"CellFormatter$Tokens", "findLast", "(III)I"⟩, prog_9_method_11_code, 5, some .int, 1, 21)
theorem y_tok_findLast : cf_Y k_tok_findLast 3 := ⟨cf_in 608 (by decide +kernel) (by decide +kernel), by decide +kernel, ⟨by decide +kernel, by decide +kernel, by decide +kernel⟩, cf_in 87 (by decide +kernel) (by decide +kernel)⟩
def k_sec_readFields : cf_M := (⟨"CellFormatter$Section", "readFields", "(LCellFormatter$Tokens;)V"⟩, prog_7_method_11_code, 5, none, 3, 66)
theorem y_sec_readFields : cf_Y k_sec_readFields 1 := ⟨cf_in 612 (by decide +kernel) (by decide +kernel), by decide +kernel, ⟨by decide +kernel, by decide +kernel, by decide +kernel⟩, cf_in 89 (by decide +kernel) (by decide +kernel)⟩
def k_sec_letterBefore : cf_M := (⟨"CellFormatter$Section", "letterBefore", "(LCellFormatter$Tokens;I)I"⟩, prog_7_method_12_code, 4, some .int, 2, 43)
theorem y_sec_letterBefore : cf_Y k_sec_letterBefore 2 := ⟨cf_in 616 (by decide +kernel) (by decide +kernel), by decide +kernel, ⟨by decide +kernel, by decide +kernel, by decide +kernel⟩, cf_in 89 (by decide +kernel) (by decide +kernel)⟩
def k_sec_letterBehind : cf_M := (⟨"CellFormatter$Section", "letterBehind", "(LCellFormatter$Tokens;I)I"⟩, prog_7_method_13_code, 4, some .int, 2, 43)
theorem y_sec_letterBehind : cf_Y k_sec_letterBehind 2 := ⟨cf_in 620 (by decide +kernel) (by decide +kernel), by decide +kernel, ⟨by decide +kernel, by decide +kernel, by decide +kernel⟩, cf_in 89 (by decide +kernel) (by decide +kernel)⟩
def k_tok_setValue : cf_M := (⟨"CellFormatter$Tokens", "setValue", "(II)V"⟩, prog_9_method_7_code, 3, none, 0, 0)
theorem y_tok_setValue : cf_Y k_tok_setValue 2 := ⟨cf_in 624 (by decide +kernel) (by decide +kernel), by decide +kernel, ⟨by decide +kernel, by decide +kernel, by decide +kernel⟩, cf_in 87 (by decide +kernel) (by decide +kernel)⟩
def k_sec_hasNumberMarks : cf_M := (⟨"CellFormatter$Section", "hasNumberMarks", "(LCellFormatter$Tokens;)Z"⟩, prog_7_method_7_code, 2, some .boolean, 2, 46)
theorem y_sec_hasNumberMarks : cf_Y k_sec_hasNumberMarks 1 := ⟨cf_in 628 (by decide +kernel) (by decide +kernel), by decide +kernel, ⟨by decide +kernel, by decide +kernel, by decide +kernel⟩, cf_in 89 (by decide +kernel) (by decide +kernel)⟩
def k_sec_hasCondition : cf_M := (⟨"CellFormatter$Section", "hasCondition", "()Z"⟩, prog_7_method_3_code, 1, some .boolean, 0, 0)
theorem y_sec_hasCondition : cf_Y k_sec_hasCondition 0 := ⟨cf_in 632 (by decide +kernel) (by decide +kernel), by decide +kernel, ⟨by decide +kernel, by decide +kernel, by decide +kernel⟩, cf_in 89 (by decide +kernel) (by decide +kernel)⟩
def k_fmt_sections : cf_M := (⟨"CellFormatter", "sections", "()I"⟩, prog_1_method_5_code, 1, some .int, 0, 0)
theorem y_fmt_sections : cf_Y k_fmt_sections 0 := ⟨cf_in 637 (by decide +kernel) (by decide +kernel), by decide +kernel, ⟨by decide +kernel, by decide +kernel, by decide +kernel⟩, cf_in 86 (by decide +kernel) (by decide +kernel)⟩
def k_fmt_kind : cf_M := (⟨"CellFormatter", "kind", "(I)I"⟩, prog_1_method_6_code, 2, some .int, 0, 0)
theorem y_fmt_kind : cf_Y k_fmt_kind 1 := ⟨cf_in 641 (by decide +kernel) (by decide +kernel), by decide +kernel, ⟨by decide +kernel, by decide +kernel, by decide +kernel⟩, cf_in 86 (by decide +kernel) (by decide +kernel)⟩
def k_fmt_calendar : cf_M := (⟨"CellFormatter", "calendar", "(Z)V"⟩, prog_1_method_7_code, 2, none, 0, 0)
theorem y_fmt_calendar : cf_Y k_fmt_calendar 1 := ⟨cf_in 645 (by decide +kernel) (by decide +kernel), by decide +kernel, ⟨by decide +kernel, by decide +kernel, by decide +kernel⟩, cf_in 86 (by decide +kernel) (by decide +kernel)⟩
def k_fmt_show : cf_M := (⟨"CellFormatter", "show", "(J)I"⟩, prog_1_method_8_code, 4, some .int, 9, 207)
theorem y_fmt_show : cf_Y k_fmt_show 1 := ⟨cf_in 649 (by decide +kernel) (by decide +kernel), by decide +kernel, ⟨by decide +kernel, by decide +kernel, by decide +kernel⟩, cf_in 86 (by decide +kernel) (by decide +kernel)⟩
def k_txt_clear : cf_M := (⟨"CellFormatter$Text", "clear", "()V"⟩, prog_8_method_2_code, 1, none, 0, 0)
theorem y_txt_clear : cf_Y k_txt_clear 0 := ⟨cf_in 653 (by decide +kernel) (by decide +kernel), by decide +kernel, ⟨by decide +kernel, by decide +kernel, by decide +kernel⟩, cf_in 91 (by decide +kernel) (by decide +kernel)⟩
def k_fmt_choosePart : cf_M := (⟨"CellFormatter", "choosePart", "(J)I"⟩, prog_1_method_14_code, 3, some .int, 3, 66)
theorem y_fmt_choosePart : cf_Y k_fmt_choosePart 1 := ⟨cf_in 659 (by decide +kernel) (by decide +kernel), by decide +kernel, ⟨by decide +kernel, by decide +kernel, by decide +kernel⟩, cf_in 86 (by decide +kernel) (by decide +kernel)⟩
def k_fmt_chooseByCondition : cf_M := (⟨"CellFormatter", "chooseByCondition", "(J)I"⟩, prog_1_method_15_code, 4, some .int, 2, 43)
theorem y_fmt_chooseByCondition : cf_Y k_fmt_chooseByCondition 1 := ⟨cf_in 663 (by decide +kernel) (by decide +kernel), by decide +kernel, ⟨by decide +kernel, by decide +kernel, by decide +kernel⟩, cf_in 86 (by decide +kernel) (by decide +kernel)⟩
def k_sec_admits : cf_M := (⟨"CellFormatter$Section", "admits", "(J)Z"⟩, prog_7_method_4_code, 4, some .boolean, 1, 20)
theorem y_sec_admits : cf_Y k_sec_admits 1 := ⟨cf_in 667 (by decide +kernel) (by decide +kernel), by decide +kernel, ⟨by decide +kernel, by decide +kernel, by decide +kernel⟩, cf_in 89 (by decide +kernel) (by decide +kernel)⟩
def k_fmt_writeBy : cf_M := (⟨"CellFormatter", "writeBy", "(IJ)Z"⟩, prog_1_method_16_code, 7, some .boolean, 8, 181)
theorem y_fmt_writeBy : cf_Y k_fmt_writeBy 2 := ⟨cf_in 672 (by decide +kernel) (by decide +kernel), by decide +kernel, ⟨by decide +kernel, by decide +kernel, by decide +kernel⟩, cf_in 86 (by decide +kernel) (by decide +kernel)⟩
def k_mom_write : cf_M := (⟨"CellFormatter$MomentWriter", "write", "(LCellFormatter$Tokens;LCellFormatter$Section;J)Z"⟩, prog_4_method_2_code, 6, some .boolean, 7, 156)
theorem y_mom_write : cf_Y k_mom_write 3 := ⟨cf_in 676 (by decide +kernel) (by decide +kernel), by decide +kernel, ⟨by decide +kernel, by decide +kernel, by decide +kernel⟩, cf_in 94 (by decide +kernel) (by decide +kernel)⟩
def k_mom_roundToSeconds : cf_M := (⟨"CellFormatter$MomentWriter", "roundToSeconds", "(J)V"⟩, prog_4_method_3_code, 5, none, 0, 0)
theorem y_mom_roundToSeconds : cf_Y k_mom_roundToSeconds 1 := ⟨cf_in 680 (by decide +kernel) (by decide +kernel), by decide +kernel, ⟨by decide +kernel, by decide +kernel, by decide +kernel⟩, cf_in 94 (by decide +kernel) (by decide +kernel)⟩
def k_cal_lastSerial : cf_M := (⟨"CellFormatter$Calendar", "lastSerial", "()I"⟩, prog_2_method_2_code, 1, some .int, 0, 0)
theorem y_cal_lastSerial : cf_Y k_cal_lastSerial 0 := ⟨cf_in 688 (by decide +kernel) (by decide +kernel), by decide +kernel, ⟨by decide +kernel, by decide +kernel, by decide +kernel⟩, cf_in 90 (by decide +kernel) (by decide +kernel)⟩
def k_cal_findDay : cf_M := (⟨"CellFormatter$Calendar", "findDay", "(I)Z"⟩, prog_2_method_3_code, 2, some .boolean, 3, 67)
theorem y_cal_findDay : cf_Y k_cal_findDay 1 := ⟨cf_in 694 (by decide +kernel) (by decide +kernel), by decide +kernel, ⟨by decide +kernel, by decide +kernel, by decide +kernel⟩, cf_in 90 (by decide +kernel) (by decide +kernel)⟩
def k_cal_daysBeforeYear : cf_M := (⟨"CellFormatter$Calendar", "daysBeforeYear", "(I)I"⟩, prog_2_method_7_code, 2, some .int, 0, 0)
theorem y_cal_daysBeforeYear : cf_Y k_cal_daysBeforeYear 1 := ⟨cf_in 698 (by decide +kernel) (by decide +kernel), by decide +kernel, ⟨by decide +kernel, by decide +kernel, by decide +kernel⟩, cf_in 90 (by decide +kernel) (by decide +kernel)⟩
def k_cal_setDate : cf_M := (⟨"CellFormatter$Calendar", "setDate", "(I)V"⟩, prog_2_method_5_code, 3, none, 2, 45)
theorem y_cal_setDate : cf_Y k_cal_setDate 1 := ⟨cf_in 702 (by decide +kernel) (by decide +kernel), by decide +kernel, ⟨by decide +kernel, by decide +kernel, by decide +kernel⟩, cf_in 90 (by decide +kernel) (by decide +kernel)⟩
def k_cal_yearOf : cf_M := (⟨"CellFormatter$Calendar", "yearOf", "(I)I"⟩, prog_2_method_6_code, 5, some .int, 1, 21)
theorem y_cal_yearOf : cf_Y k_cal_yearOf 1 := ⟨cf_in 705 (by decide +kernel) (by decide +kernel), by decide +kernel, ⟨by decide +kernel, by decide +kernel, by decide +kernel⟩, cf_in 90 (by decide +kernel) (by decide +kernel)⟩
def k_cal_monthLength : cf_M := (⟨"CellFormatter$Calendar", "monthLength", "(II)I"⟩, prog_2_method_8_code, 2, some .int, 1, 20)
theorem y_cal_monthLength : cf_Y k_cal_monthLength 2 := ⟨cf_in 708 (by decide +kernel) (by decide +kernel), by decide +kernel, ⟨by decide +kernel, by decide +kernel, by decide +kernel⟩, cf_in 90 (by decide +kernel) (by decide +kernel)⟩
def k_cal_isLeap : cf_M := (⟨"CellFormatter$Calendar", "isLeap", "(I)Z"⟩, prog_2_method_9_code, 1, some .boolean, 0, 0)
theorem y_cal_isLeap : cf_Y k_cal_isLeap 1 := ⟨cf_in 711 (by decide +kernel) (by decide +kernel), by decide +kernel, ⟨by decide +kernel, by decide +kernel, by decide +kernel⟩, cf_in 90 (by decide +kernel) (by decide +kernel)⟩
def k_mom_writeToken : cf_M := (⟨"CellFormatter$MomentWriter", "writeToken", "(LCellFormatter$Tokens;IZ)V"⟩, prog_4_method_4_code, 5, none, 6, 132)
theorem y_mom_writeToken : cf_Y k_mom_writeToken 3 := ⟨cf_in 717 (by decide +kernel) (by decide +kernel), by decide +kernel, ⟨by decide +kernel, by decide +kernel, by decide +kernel⟩, cf_in 94 (by decide +kernel) (by decide +kernel)⟩
def k_txt_add : cf_M := (⟨"CellFormatter$Text", "add", "(C)V"⟩, prog_8_method_3_code, 2, none, 0, 0)
theorem y_txt_add : cf_Y k_txt_add 1 := ⟨cf_in 723 (by decide +kernel) (by decide +kernel), by decide +kernel, ⟨by decide +kernel, by decide +kernel, by decide +kernel⟩, cf_in 91 (by decide +kernel) (by decide +kernel)⟩
def k_mom_writeElapsed : cf_M := (⟨"CellFormatter$MomentWriter", "writeElapsed", "(I)V"⟩, prog_4_method_6_code, 4, none, 2, 47)
theorem y_mom_writeElapsed : cf_Y k_mom_writeElapsed 1 := ⟨cf_in 727 (by decide +kernel) (by decide +kernel), by decide +kernel, ⟨by decide +kernel, by decide +kernel, by decide +kernel⟩, cf_in 94 (by decide +kernel) (by decide +kernel)⟩
def k_txt_addNumber : cf_M := (⟨"CellFormatter$Text", "addNumber", "(JI)V"⟩, prog_8_method_4_code, 6, none, 1, 22)
theorem y_txt_addNumber : cf_Y k_txt_addNumber 2 := ⟨cf_in 732 (by decide +kernel) (by decide +kernel), by decide +kernel, ⟨by decide +kernel, by decide +kernel, by decide +kernel⟩, cf_in 91 (by decide +kernel) (by decide +kernel)⟩
def k_fmt_countDigits : cf_M := (⟨"CellFormatter", "countDigits", "(J)I"⟩, prog_1_method_18_code, 3, some .int, 0, 0)
theorem y_fmt_countDigits : cf_Y k_fmt_countDigits 1 := ⟨cf_in 735 (by decide +kernel) (by decide +kernel), by decide +kernel, ⟨by decide +kernel, by decide +kernel, by decide +kernel⟩, cf_in 86 (by decide +kernel) (by decide +kernel)⟩
def k_mom_hour : cf_M := (⟨"CellFormatter$MomentWriter", "hour", "()I"⟩, prog_4_method_5_code, 1, some .int, 0, 0)
theorem y_mom_hour : cf_Y k_mom_hour 0 := ⟨cf_in 748 (by decide +kernel) (by decide +kernel), by decide +kernel, ⟨by decide +kernel, by decide +kernel, by decide +kernel⟩, cf_in 94 (by decide +kernel) (by decide +kernel)⟩
def k_mom_writeField : cf_M := (⟨"CellFormatter$MomentWriter", "writeField", "(IIZ)V"⟩, prog_4_method_7_code, 4, none, 5, 109)
theorem y_mom_writeField : cf_Y k_mom_writeField 3 := ⟨cf_in 753 (by decide +kernel) (by decide +kernel), by decide +kernel, ⟨by decide +kernel, by decide +kernel, by decide +kernel⟩, cf_in 94 (by decide +kernel) (by decide +kernel)⟩
def k_mom_numberOf : cf_M := (⟨"CellFormatter$MomentWriter", "numberOf", "(IIZ)I"⟩, prog_4_method_8_code, 4, some .int, 1, 20)
theorem y_mom_numberOf : cf_Y k_mom_numberOf 3 := ⟨cf_in 757 (by decide +kernel) (by decide +kernel), by decide +kernel, ⟨by decide +kernel, by decide +kernel, by decide +kernel⟩, cf_in 94 (by decide +kernel) (by decide +kernel)⟩
def k_mom_writeName : cf_M := (⟨"CellFormatter$MomentWriter", "writeName", "(Ljava/lang/String;I)V"⟩, prog_4_method_9_code, 5, none, 4, 85)
theorem y_mom_writeName : cf_Y k_mom_writeName 2 := ⟨cf_in 762 (by decide +kernel) (by decide +kernel), by decide +kernel, ⟨by decide +kernel, by decide +kernel, by decide +kernel⟩, cf_in 94 (by decide +kernel) (by decide +kernel)⟩
def k_math_abs_J : cf_M := (⟨"java/lang/Math", "abs", "(J)J"⟩, prog_13_method_61_code, 2, some .long, 0, 0)
theorem y_math_abs_J : cf_Y k_math_abs_J 1 := ⟨cf_in 768 (by decide +kernel) (by decide +kernel), by decide +kernel, ⟨by decide +kernel, by decide +kernel, by decide +kernel⟩, cf_in 96 (by decide +kernel) (by decide +kernel)⟩
def k_num_write : cf_M := (⟨"CellFormatter$NumberWriter", "write", "(LCellFormatter$Tokens;LCellFormatter$Section;JZ)V"⟩, prog_5_method_2_code, 8, none, 4, 96)
theorem y_num_write : cf_Y k_num_write 4 := ⟨cf_in 772 (by decide +kernel) (by decide +kernel), by decide +kernel, ⟨by decide +kernel, by decide +kernel, by decide +kernel⟩, cf_in 92 (by decide +kernel) (by decide +kernel)⟩
def k_num_prepare : cf_M := (⟨"CellFormatter$NumberWriter", "prepare", "(LCellFormatter$Section;J)V"⟩, prog_5_method_3_code, 5, none, 3, 65)
theorem y_num_prepare : cf_Y k_num_prepare 2 := ⟨cf_in 776 (by decide +kernel) (by decide +kernel), by decide +kernel, ⟨by decide +kernel, by decide +kernel, by decide +kernel⟩, cf_in 92 (by decide +kernel) (by decide +kernel)⟩
def k_dec_set : cf_M := (⟨"CellFormatter$Decimal", "set", "(JI)V"⟩, prog_3_method_2_code, 4, none, 0, 0)
theorem y_dec_set : cf_Y k_dec_set 2 := ⟨cf_in 780 (by decide +kernel) (by decide +kernel), by decide +kernel, ⟨by decide +kernel, by decide +kernel, by decide +kernel⟩, cf_in 93 (by decide +kernel) (by decide +kernel)⟩
def k_dec_takeExponent : cf_M := (⟨"CellFormatter$Decimal", "takeExponent", "(II)I"⟩, prog_3_method_7_code, 4, some .int, 2, 42)
theorem y_dec_takeExponent : cf_Y k_dec_takeExponent 2 := ⟨cf_in 785 (by decide +kernel) (by decide +kernel), by decide +kernel, ⟨by decide +kernel, by decide +kernel, by decide +kernel⟩, cf_in 93 (by decide +kernel) (by decide +kernel)⟩
def k_dec_isZero : cf_M := (⟨"CellFormatter$Decimal", "isZero", "()Z"⟩, prog_3_method_3_code, 1, some .boolean, 0, 0)
theorem y_dec_isZero : cf_Y k_dec_isZero 0 := ⟨cf_in 789 (by decide +kernel) (by decide +kernel), by decide +kernel, ⟨by decide +kernel, by decide +kernel, by decide +kernel⟩, cf_in 93 (by decide +kernel) (by decide +kernel)⟩
def k_dec_highestPower : cf_M := (⟨"CellFormatter$Decimal", "highestPower", "()I"⟩, prog_3_method_4_code, 1, some .int, 1, 22)
theorem y_dec_highestPower : cf_Y k_dec_highestPower 0 := ⟨cf_in 793 (by decide +kernel) (by decide +kernel), by decide +kernel, ⟨by decide +kernel, by decide +kernel, by decide +kernel⟩, cf_in 93 (by decide +kernel) (by decide +kernel)⟩
def k_math_floorDiv : cf_M := (⟨"java/lang/Math", "floorDiv", "(II)I"⟩, prog_13_method_47_code, 3, some .int, 0, 0)
theorem y_math_floorDiv : cf_Y k_math_floorDiv 2 := ⟨cf_in 797 (by decide +kernel) (by decide +kernel), by decide +kernel, ⟨by decide +kernel, by decide +kernel, by decide +kernel⟩, cf_in 96 (by decide +kernel) (by decide +kernel)⟩
def k_dec_round : cf_M := (⟨"CellFormatter$Decimal", "round", "(I)V"⟩, prog_3_method_6_code, 3, none, 0, 0)
theorem y_dec_round : cf_Y k_dec_round 1 := ⟨cf_in 801 (by decide +kernel) (by decide +kernel), by decide +kernel, ⟨by decide +kernel, by decide +kernel, by decide +kernel⟩, cf_in 93 (by decide +kernel) (by decide +kernel)⟩
def k_math_abs_I : cf_M := (⟨"java/lang/Math", "abs", "(I)I"⟩, prog_13_method_59_code, 1, some .int, 0, 0)
theorem y_math_abs_I : cf_Y k_math_abs_I 1 := ⟨cf_in 808 (by decide +kernel) (by decide +kernel), by decide +kernel, ⟨by decide +kernel, by decide +kernel, by decide +kernel⟩, cf_in 96 (by decide +kernel) (by decide +kernel)⟩
def k_num_writePlace : cf_M := (⟨"CellFormatter$NumberWriter", "writePlace", "(LCellFormatter$Section;II)V"⟩, prog_5_method_5_code, 5, none, 3, 72)
theorem y_num_writePlace : cf_Y k_num_writePlace 3 := ⟨cf_in 816 (by decide +kernel) (by decide +kernel), by decide +kernel, ⟨by decide +kernel, by decide +kernel, by decide +kernel⟩, cf_in 92 (by decide +kernel) (by decide +kernel)⟩
def k_num_writeIntegerPlace : cf_M := (⟨"CellFormatter$NumberWriter", "writeIntegerPlace", "(LCellFormatter$Decimal;IIZZ)V"⟩, prog_5_method_6_code, 8, none, 2, 45)
theorem y_num_writeIntegerPlace : cf_Y k_num_writeIntegerPlace 5 := ⟨cf_in 820 (by decide +kernel) (by decide +kernel), by decide +kernel, ⟨by decide +kernel, by decide +kernel, by decide +kernel⟩, cf_in 92 (by decide +kernel) (by decide +kernel)⟩
def k_num_writeDigit : cf_M := (⟨"CellFormatter$NumberWriter", "writeDigit", "(LCellFormatter$Decimal;IZ)V"⟩, prog_5_method_7_code, 4, none, 1, 22)
theorem y_num_writeDigit : cf_Y k_num_writeDigit 3 := ⟨cf_in 825 (by decide +kernel) (by decide +kernel), by decide +kernel, ⟨by decide +kernel, by decide +kernel, by decide +kernel⟩, cf_in 92 (by decide +kernel) (by decide +kernel)⟩
def k_dec_digitOf : cf_M := (⟨"CellFormatter$Decimal", "digitOf", "(I)I"⟩, prog_3_method_5_code, 3, some .int, 0, 0)
theorem y_dec_digitOf : cf_Y k_dec_digitOf 1 := ⟨cf_in 829 (by decide +kernel) (by decide +kernel), by decide +kernel, ⟨by decide +kernel, by decide +kernel, by decide +kernel⟩, cf_in 93 (by decide +kernel) (by decide +kernel)⟩
def k_num_writeFractionPlace : cf_M := (⟨"CellFormatter$NumberWriter", "writeFractionPlace", "(II)V"⟩, prog_5_method_8_code, 3, none, 2, 45)
theorem y_num_writeFractionPlace : cf_Y k_num_writeFractionPlace 2 := ⟨cf_in 834 (by decide +kernel) (by decide +kernel), by decide +kernel, ⟨by decide +kernel, by decide +kernel, by decide +kernel⟩, cf_in 92 (by decide +kernel) (by decide +kernel)⟩
def k_num_onlyZerosFrom : cf_M := (⟨"CellFormatter$NumberWriter", "onlyZerosFrom", "(II)Z"⟩, prog_5_method_9_code, 4, some .boolean, 1, 22)
theorem y_num_onlyZerosFrom : cf_Y k_num_onlyZerosFrom 2 := ⟨cf_in 838 (by decide +kernel) (by decide +kernel), by decide +kernel, ⟨by decide +kernel, by decide +kernel, by decide +kernel⟩, cf_in 92 (by decide +kernel) (by decide +kernel)⟩
def k_num_writeExponentMark : cf_M := (⟨"CellFormatter$NumberWriter", "writeExponentMark", "(I)V"⟩, prog_5_method_4_code, 2, none, 1, 21)
theorem y_num_writeExponentMark : cf_Y k_num_writeExponentMark 1 := ⟨cf_in 842 (by decide +kernel) (by decide +kernel), by decide +kernel, ⟨by decide +kernel, by decide +kernel, by decide +kernel⟩, cf_in 92 (by decide +kernel) (by decide +kernel)⟩
def k_fmt_writePlain : cf_M := (⟨"CellFormatter", "writePlain", "(LCellFormatter$Section;Z)V"⟩, prog_1_method_17_code, 4, none, 1, 21)
theorem y_fmt_writePlain : cf_Y k_fmt_writePlain 2 := ⟨cf_in 846 (by decide +kernel) (by decide +kernel), by decide +kernel, ⟨by decide +kernel, by decide +kernel, by decide +kernel⟩, cf_in 86 (by decide +kernel) (by decide +kernel)⟩
def k_fmt_charAt : cf_M := (⟨"CellFormatter", "charAt", "(I)C"⟩, prog_1_method_9_code, 2, some .char, 1, 21)
theorem y_fmt_charAt : cf_Y k_fmt_charAt 1 := ⟨cf_in 853 (by decide +kernel) (by decide +kernel), by decide +kernel, ⟨by decide +kernel, by decide +kernel, by decide +kernel⟩, cf_in 86 (by decide +kernel) (by decide +kernel)⟩
def k_txt_at : cf_M := (⟨"CellFormatter$Text", "at", "(I)C"⟩, prog_8_method_5_code, 2, some .char, 0, 0)
theorem y_txt_at : cf_Y k_txt_at 1 := ⟨cf_in 857 (by decide +kernel) (by decide +kernel), by decide +kernel, ⟨by decide +kernel, by decide +kernel, by decide +kernel⟩, cf_in 91 (by decide +kernel) (by decide +kernel)⟩
def k_fmt_section : cf_M := (⟨"CellFormatter", "section", "()I"⟩, prog_1_method_10_code, 1, some .int, 0, 0)
theorem y_fmt_section : cf_Y k_fmt_section 0 := ⟨cf_in 861 (by decide +kernel) (by decide +kernel), by decide +kernel, ⟨by decide +kernel, by decide +kernel, by decide +kernel⟩, cf_in 86 (by decide +kernel) (by decide +kernel)⟩
def k_fmt_date : cf_M := (⟨"CellFormatter", "date", "(II)I"⟩, prog_1_method_11_code, 3, some .int, 4, 88)
theorem y_fmt_date : cf_Y k_fmt_date 2 := ⟨cf_in 865 (by decide +kernel) (by decide +kernel), by decide +kernel, ⟨by decide +kernel, by decide +kernel, by decide +kernel⟩, cf_in 86 (by decide +kernel) (by decide +kernel)⟩
def k_fmt_serial : cf_M := (⟨"CellFormatter", "serial", "(III)I"⟩, prog_1_method_12_code, 4, some .int, 3, 67)
theorem y_fmt_serial : cf_Y k_fmt_serial 3 := ⟨cf_in 870 (by decide +kernel) (by decide +kernel), by decide +kernel, ⟨by decide +kernel, by decide +kernel, by decide +kernel⟩, cf_in 86 (by decide +kernel) (by decide +kernel)⟩
def k_cal_serialOf : cf_M := (⟨"CellFormatter$Calendar", "serialOf", "(III)I"⟩, prog_2_method_4_code, 7, some .int, 2, 41)
theorem y_cal_serialOf : cf_Y k_cal_serialOf 3 := ⟨cf_in 874 (by decide +kernel) (by decide +kernel), by decide +kernel, ⟨by decide +kernel, by decide +kernel, by decide +kernel⟩, cf_in 90 (by decide +kernel) (by decide +kernel)⟩
def k_mod_feed : cf_M := (⟨"CellFormatterModel", "feed", "(C)Z"⟩, prog_11_method_2_code, 2, some .boolean, 0, 0)
theorem y_mod_feed : cf_Y k_mod_feed 1 := ⟨cf_in 948 (by decide +kernel) (by decide +kernel), by decide +kernel, ⟨by decide +kernel, by decide +kernel, by decide +kernel⟩, cf_in 95 (by decide +kernel) (by decide +kernel)⟩
def k_mod_erase : cf_M := (⟨"CellFormatterModel", "erase", "()V"⟩, prog_11_method_3_code, 1, none, 0, 0)
theorem y_mod_erase : cf_Y k_mod_erase 0 := ⟨cf_in 952 (by decide +kernel) (by decide +kernel), by decide +kernel, ⟨by decide +kernel, by decide +kernel, by decide +kernel⟩, cf_in 95 (by decide +kernel) (by decide +kernel)⟩
def k_mod_compile : cf_M := (⟨"CellFormatterModel", "compile", "()I"⟩, prog_11_method_13_code, 4, some .int, 4, 101)
theorem y_mod_compile : cf_Y k_mod_compile 0 := ⟨cf_in 956 (by decide +kernel) (by decide +kernel), by decide +kernel, ⟨by decide +kernel, by decide +kernel, by decide +kernel⟩, cf_in 95 (by decide +kernel) (by decide +kernel)⟩
def k_mod_token : cf_M := (⟨"CellFormatterModel", "token", "(I)V"⟩, prog_11_method_12_code, 4, none, 3, 71)
theorem y_mod_token : cf_Y k_mod_token 1 := ⟨cf_in 960 (by decide +kernel) (by decide +kernel), by decide +kernel, ⟨by decide +kernel, by decide +kernel, by decide +kernel⟩, cf_in 95 (by decide +kernel) (by decide +kernel)⟩
def k_mod_at : cf_M := (⟨"CellFormatterModel", "at", "(I)I"⟩, prog_11_method_4_code, 2, some .int, 0, 0)
theorem y_mod_at : cf_Y k_mod_at 1 := ⟨cf_in 964 (by decide +kernel) (by decide +kernel), by decide +kernel, ⟨by decide +kernel, by decide +kernel, by decide +kernel⟩, cf_in 95 (by decide +kernel) (by decide +kernel)⟩
def k_mod_quoted : cf_M := (⟨"CellFormatterModel", "quoted", "(I)V"⟩, prog_11_method_10_code, 3, none, 1, 24)
theorem y_mod_quoted : cf_Y k_mod_quoted 1 := ⟨cf_in 968 (by decide +kernel) (by decide +kernel), by decide +kernel, ⟨by decide +kernel, by decide +kernel, by decide +kernel⟩, cf_in 95 (by decide +kernel) (by decide +kernel)⟩
def k_mod_meet : cf_M := (⟨"CellFormatterModel", "meet", "(IIII)V"⟩, prog_11_method_7_code, 5, none, 0, 0)
theorem y_mod_meet : cf_Y k_mod_meet 4 := ⟨cf_in 972 (by decide +kernel) (by decide +kernel), by decide +kernel, ⟨by decide +kernel, by decide +kernel, by decide +kernel⟩, cf_in 95 (by decide +kernel) (by decide +kernel)⟩
def k_mod_bare : cf_M := (⟨"CellFormatterModel", "bare", "(I)Z"⟩, prog_11_method_6_code, 1, some .boolean, 0, 0)
theorem y_mod_bare : cf_Y k_mod_bare 1 := ⟨cf_in 975 (by decide +kernel) (by decide +kernel), by decide +kernel, ⟨by decide +kernel, by decide +kernel, by decide +kernel⟩, cf_in 95 (by decide +kernel) (by decide +kernel)⟩
def k_mod_bracket : cf_M := (⟨"CellFormatterModel", "bracket", "(I)V"⟩, prog_11_method_9_code, 8, none, 2, 44)
theorem y_mod_bracket : cf_Y k_mod_bracket 1 := ⟨cf_in 979 (by decide +kernel) (by decide +kernel), by decide +kernel, ⟨by decide +kernel, by decide +kernel, by decide +kernel⟩, cf_in 95 (by decide +kernel) (by decide +kernel)⟩
def k_mod_comparison : cf_M := (⟨"CellFormatterModel", "comparison", "(I)I"⟩, prog_11_method_8_code, 4, some .int, 1, 21)
theorem y_mod_comparison : cf_Y k_mod_comparison 1 := ⟨cf_in 983 (by decide +kernel) (by decide +kernel), by decide +kernel, ⟨by decide +kernel, by decide +kernel, by decide +kernel⟩, cf_in 95 (by decide +kernel) (by decide +kernel)⟩
def k_mod_digit : cf_M := (⟨"CellFormatterModel", "digit", "(I)Z"⟩, prog_11_method_5_code, 1, some .boolean, 0, 0)
theorem y_mod_digit : cf_Y k_mod_digit 1 := ⟨cf_in 986 (by decide +kernel) (by decide +kernel), by decide +kernel, ⟨by decide +kernel, by decide +kernel, by decide +kernel⟩, cf_in 95 (by decide +kernel) (by decide +kernel)⟩
def k_mod_letters : cf_M := (⟨"CellFormatterModel", "letters", "(I)V"⟩, prog_11_method_11_code, 5, none, 1, 24)
theorem y_mod_letters : cf_Y k_mod_letters 1 := ⟨cf_in 990 (by decide +kernel) (by decide +kernel), by decide +kernel, ⟨by decide +kernel, by decide +kernel, by decide +kernel⟩, cf_in 95 (by decide +kernel) (by decide +kernel)⟩
def k_mod_wellMade : cf_M := (⟨"CellFormatterModel", "wellMade", "(I)Z"⟩, prog_11_method_20_code, 13, some .boolean, 3, 69)
theorem y_mod_wellMade : cf_Y k_mod_wellMade 1 := ⟨cf_in 994 (by decide +kernel) (by decide +kernel), by decide +kernel, ⟨by decide +kernel, by decide +kernel, by decide +kernel⟩, cf_in 95 (by decide +kernel) (by decide +kernel)⟩
def k_mod_count : cf_M := (⟨"CellFormatterModel", "count", "(III)I"⟩, prog_11_method_14_code, 6, some .int, 0, 0)
theorem y_mod_count : cf_Y k_mod_count 3 := ⟨cf_in 998 (by decide +kernel) (by decide +kernel), by decide +kernel, ⟨by decide +kernel, by decide +kernel, by decide +kernel⟩, cf_in 95 (by decide +kernel) (by decide +kernel)⟩
def k_mod_kindOf : cf_M := (⟨"CellFormatterModel", "kindOf", "(I)I"⟩, prog_11_method_16_code, 4, some .int, 1, 25)
theorem y_mod_kindOf : cf_Y k_mod_kindOf 1 := ⟨cf_in 1002 (by decide +kernel) (by decide +kernel), by decide +kernel, ⟨by decide +kernel, by decide +kernel, by decide +kernel⟩, cf_in 95 (by decide +kernel) (by decide +kernel)⟩
def k_mod_find : cf_M := (⟨"CellFormatterModel", "find", "(II)I"⟩, prog_11_method_15_code, 4, some .int, 0, 0)
theorem y_mod_find : cf_Y k_mod_find 2 := ⟨cf_in 1006 (by decide +kernel) (by decide +kernel), by decide +kernel, ⟨by decide +kernel, by decide +kernel, by decide +kernel⟩, cf_in 95 (by decide +kernel) (by decide +kernel)⟩
def k_mod_integerEnd : cf_M := (⟨"CellFormatterModel", "integerEnd", "(I)I"⟩, prog_11_method_17_code, 4, some .int, 1, 23)
theorem y_mod_integerEnd : cf_Y k_mod_integerEnd 1 := ⟨cf_in 1010 (by decide +kernel) (by decide +kernel), by decide +kernel, ⟨by decide +kernel, by decide +kernel, by decide +kernel⟩, cf_in 95 (by decide +kernel) (by decide +kernel)⟩
def k_mod_groups : cf_M := (⟨"CellFormatterModel", "groups", "(II)Z"⟩, prog_11_method_18_code, 3, some .boolean, 2, 46)
theorem y_mod_groups : cf_Y k_mod_groups 2 := ⟨cf_in 1014 (by decide +kernel) (by decide +kernel), by decide +kernel, ⟨by decide +kernel, by decide +kernel, by decide +kernel⟩, cf_in 95 (by decide +kernel) (by decide +kernel)⟩
def k_mod_scales : cf_M := (⟨"CellFormatterModel", "scales", "(II)Z"⟩, prog_11_method_19_code, 4, some .boolean, 2, 46)
theorem y_mod_scales : cf_Y k_mod_scales 2 := ⟨cf_in 1018 (by decide +kernel) (by decide +kernel), by decide +kernel, ⟨by decide +kernel, by decide +kernel, by decide +kernel⟩, cf_in 95 (by decide +kernel) (by decide +kernel)⟩
def k_mod_sections : cf_M := (⟨"CellFormatterModel", "sections", "()I"⟩, prog_11_method_21_code, 1, some .int, 0, 0)
theorem y_mod_sections : cf_Y k_mod_sections 0 := ⟨cf_in 1022 (by decide +kernel) (by decide +kernel), by decide +kernel, ⟨by decide +kernel, by decide +kernel, by decide +kernel⟩, cf_in 95 (by decide +kernel) (by decide +kernel)⟩
def k_mod_kind : cf_M := (⟨"CellFormatterModel", "kind", "(I)I"⟩, prog_11_method_22_code, 2, some .int, 2, 48)
theorem y_mod_kind : cf_Y k_mod_kind 1 := ⟨cf_in 1026 (by decide +kernel) (by decide +kernel), by decide +kernel, ⟨by decide +kernel, by decide +kernel, by decide +kernel⟩, cf_in 95 (by decide +kernel) (by decide +kernel)⟩
def k_mod_calendar : cf_M := (⟨"CellFormatterModel", "calendar", "(Z)V"⟩, prog_11_method_23_code, 2, none, 0, 0)
theorem y_mod_calendar : cf_Y k_mod_calendar 1 := ⟨cf_in 1030 (by decide +kernel) (by decide +kernel), by decide +kernel, ⟨by decide +kernel, by decide +kernel, by decide +kernel⟩, cf_in 95 (by decide +kernel) (by decide +kernel)⟩
def k_mod_date : cf_M := (⟨"CellFormatterModel", "date", "(II)I"⟩, prog_11_method_48_code, 6, some .int, 4, 85)
theorem y_mod_date : cf_Y k_mod_date 2 := ⟨cf_in 1034 (by decide +kernel) (by decide +kernel), by decide +kernel, ⟨by decide +kernel, by decide +kernel, by decide +kernel⟩, cf_in 95 (by decide +kernel) (by decide +kernel)⟩
def k_mod_firstSerial : cf_M := (⟨"CellFormatterModel", "firstSerial", "()I"⟩, prog_11_method_46_code, 1, some .int, 0, 0)
theorem y_mod_firstSerial : cf_Y k_mod_firstSerial 0 := ⟨cf_in 1038 (by decide +kernel) (by decide +kernel), by decide +kernel, ⟨by decide +kernel, by decide +kernel, by decide +kernel⟩, cf_in 95 (by decide +kernel) (by decide +kernel)⟩
def k_mod_lastSerial : cf_M := (⟨"CellFormatterModel", "lastSerial", "()I"⟩, prog_11_method_47_code, 3, some .int, 3, 63)
theorem y_mod_lastSerial : cf_Y k_mod_lastSerial 0 := ⟨cf_in 1042 (by decide +kernel) (by decide +kernel), by decide +kernel, ⟨by decide +kernel, by decide +kernel, by decide +kernel⟩, cf_in 95 (by decide +kernel) (by decide +kernel)⟩
def k_mod_firstYear : cf_M := (⟨"CellFormatterModel", "firstYear", "()I"⟩, prog_11_method_45_code, 1, some .int, 0, 0)
theorem y_mod_firstYear : cf_Y k_mod_firstYear 0 := ⟨cf_in 1046 (by decide +kernel) (by decide +kernel), by decide +kernel, ⟨by decide +kernel, by decide +kernel, by decide +kernel⟩, cf_in 95 (by decide +kernel) (by decide +kernel)⟩
def k_mod_daysOfYear : cf_M := (⟨"CellFormatterModel", "daysOfYear", "(I)I"⟩, prog_11_method_44_code, 2, some .int, 2, 42)
theorem y_mod_daysOfYear : cf_Y k_mod_daysOfYear 1 := ⟨cf_in 1050 (by decide +kernel) (by decide +kernel), by decide +kernel, ⟨by decide +kernel, by decide +kernel, by decide +kernel⟩, cf_in 95 (by decide +kernel) (by decide +kernel)⟩
def k_mod_daysOf : cf_M := (⟨"CellFormatterModel", "daysOf", "(II)I"⟩, prog_11_method_43_code, 3, some .int, 1, 20)
theorem y_mod_daysOf : cf_Y k_mod_daysOf 2 := ⟨cf_in 1054 (by decide +kernel) (by decide +kernel), by decide +kernel, ⟨by decide +kernel, by decide +kernel, by decide +kernel⟩, cf_in 95 (by decide +kernel) (by decide +kernel)⟩
def k_mod_leap : cf_M := (⟨"CellFormatterModel", "leap", "(I)Z"⟩, prog_11_method_42_code, 1, some .boolean, 0, 0)
theorem y_mod_leap : cf_Y k_mod_leap 1 := ⟨cf_in 1057 (by decide +kernel) (by decide +kernel), by decide +kernel, ⟨by decide +kernel, by decide +kernel, by decide +kernel⟩, cf_in 95 (by decide +kernel) (by decide +kernel)⟩
def k_mod_serial : cf_M := (⟨"CellFormatterModel", "serial", "(III)I"⟩, prog_11_method_49_code, 6, some .int, 3, 63)
theorem y_mod_serial : cf_Y k_mod_serial 3 := ⟨cf_in 1061 (by decide +kernel) (by decide +kernel), by decide +kernel, ⟨by decide +kernel, by decide +kernel, by decide +kernel⟩, cf_in 95 (by decide +kernel) (by decide +kernel)⟩
def k_mod_show : cf_M := (⟨"CellFormatterModel", "show", "(J)I"⟩, prog_11_method_58_code, 7, some .int, 7, 162)
theorem y_mod_show : cf_Y k_mod_show 1 := ⟨cf_in 1065 (by decide +kernel) (by decide +kernel), by decide +kernel, ⟨by decide +kernel, by decide +kernel, by decide +kernel⟩, cf_in 95 (by decide +kernel) (by decide +kernel)⟩
def k_mod_sectionFor : cf_M := (⟨"CellFormatterModel", "sectionFor", "(J)I"⟩, prog_11_method_27_code, 4, some .int, 2, 43)
theorem y_mod_sectionFor : cf_Y k_mod_sectionFor 1 := ⟨cf_in 1071 (by decide +kernel) (by decide +kernel), by decide +kernel, ⟨by decide +kernel, by decide +kernel, by decide +kernel⟩, cf_in 95 (by decide +kernel) (by decide +kernel)⟩
def k_mod_anyCondition : cf_M := (⟨"CellFormatterModel", "anyCondition", "()Z"⟩, prog_11_method_26_code, 3, some .boolean, 1, 21)
theorem y_mod_anyCondition : cf_Y k_mod_anyCondition 0 := ⟨cf_in 1075 (by decide +kernel) (by decide +kernel), by decide +kernel, ⟨by decide +kernel, by decide +kernel, by decide +kernel⟩, cf_in 95 (by decide +kernel) (by decide +kernel)⟩
def k_mod_conditional : cf_M := (⟨"CellFormatterModel", "conditional", "(I)Z"⟩, prog_11_method_24_code, 2, some .boolean, 0, 0)
theorem y_mod_conditional : cf_Y k_mod_conditional 1 := ⟨cf_in 1079 (by decide +kernel) (by decide +kernel), by decide +kernel, ⟨by decide +kernel, by decide +kernel, by decide +kernel⟩, cf_in 95 (by decide +kernel) (by decide +kernel)⟩
def k_mod_holds : cf_M := (⟨"CellFormatterModel", "holds", "(IJ)Z"⟩, prog_11_method_25_code, 7, some .boolean, 0, 0)
theorem y_mod_holds : cf_Y k_mod_holds 2 := ⟨cf_in 1083 (by decide +kernel) (by decide +kernel), by decide +kernel, ⟨by decide +kernel, by decide +kernel, by decide +kernel⟩, cf_in 95 (by decide +kernel) (by decide +kernel)⟩
def k_mod_moment : cf_M := (⟨"CellFormatterModel", "moment", "(IJ)Z"⟩, prog_11_method_57_code, 9, some .boolean, 6, 134)
theorem y_mod_moment : cf_Y k_mod_moment 2 := ⟨cf_in 1088 (by decide +kernel) (by decide +kernel), by decide +kernel, ⟨by decide +kernel, by decide +kernel, by decide +kernel⟩, cf_in 95 (by decide +kernel) (by decide +kernel)⟩
def k_mod_daily : cf_M := (⟨"CellFormatterModel", "daily", "(II)Z"⟩, prog_11_method_52_code, 3, some .boolean, 2, 47)
theorem y_mod_daily : cf_Y k_mod_daily 2 := ⟨cf_in 1095 (by decide +kernel) (by decide +kernel), by decide +kernel, ⟨by decide +kernel, by decide +kernel, by decide +kernel⟩, cf_in 95 (by decide +kernel) (by decide +kernel)⟩
def k_mod_minute : cf_M := (⟨"CellFormatterModel", "minute", "(II)Z"⟩, prog_11_method_51_code, 7, some .boolean, 1, 21)
theorem y_mod_minute : cf_Y k_mod_minute 2 := ⟨cf_in 1099 (by decide +kernel) (by decide +kernel), by decide +kernel, ⟨by decide +kernel, by decide +kernel, by decide +kernel⟩, cf_in 95 (by decide +kernel) (by decide +kernel)⟩
def k_mod_field : cf_M := (⟨"CellFormatterModel", "field", "(I)Z"⟩, prog_11_method_50_code, 2, some .boolean, 0, 0)
theorem y_mod_field : cf_Y k_mod_field 1 := ⟨cf_in 1103 (by decide +kernel) (by decide +kernel), by decide +kernel, ⟨by decide +kernel, by decide +kernel, by decide +kernel⟩, cf_in 95 (by decide +kernel) (by decide +kernel)⟩
def k_mod_putLiteral : cf_M := (⟨"CellFormatterModel", "putLiteral", "(I)V"⟩, prog_11_method_29_code, 3, none, 1, 21)
theorem y_mod_putLiteral : cf_Y k_mod_putLiteral 1 := ⟨cf_in 1107 (by decide +kernel) (by decide +kernel), by decide +kernel, ⟨by decide +kernel, by decide +kernel, by decide +kernel⟩, cf_in 95 (by decide +kernel) (by decide +kernel)⟩
def k_mod_put : cf_M := (⟨"CellFormatterModel", "put", "(I)V"⟩, prog_11_method_28_code, 2, none, 0, 0)
theorem y_mod_put : cf_Y k_mod_put 1 := ⟨cf_in 1111 (by decide +kernel) (by decide +kernel), by decide +kernel, ⟨by decide +kernel, by decide +kernel, by decide +kernel⟩, cf_in 95 (by decide +kernel) (by decide +kernel)⟩
def k_mod_dailyField : cf_M := (⟨"CellFormatterModel", "dailyField", "(II)V"⟩, prog_11_method_55_code, 5, none, 5, 110)
theorem y_mod_dailyField : cf_Y k_mod_dailyField 2 := ⟨cf_in 1115 (by decide +kernel) (by decide +kernel), by decide +kernel, ⟨by decide +kernel, by decide +kernel, by decide +kernel⟩, cf_in 95 (by decide +kernel) (by decide +kernel)⟩
def k_mod_putNumber : cf_M := (⟨"CellFormatterModel", "putNumber", "(JI)V"⟩, prog_11_method_30_code, 7, none, 1, 21)
theorem y_mod_putNumber : cf_Y k_mod_putNumber 2 := ⟨cf_in 1120 (by decide +kernel) (by decide +kernel), by decide +kernel, ⟨by decide +kernel, by decide +kernel, by decide +kernel⟩, cf_in 95 (by decide +kernel) (by decide +kernel)⟩
def k_mod_month : cf_M := (⟨"CellFormatterModel", "month", "(I)V"⟩, prog_11_method_53_code, 5, none, 1, 21)
theorem y_mod_month : cf_Y k_mod_month 1 := ⟨cf_in 1126 (by decide +kernel) (by decide +kernel), by decide +kernel, ⟨by decide +kernel, by decide +kernel, by decide +kernel⟩, cf_in 95 (by decide +kernel) (by decide +kernel)⟩
def k_mod_weekday : cf_M := (⟨"CellFormatterModel", "weekday", "(I)V"⟩, prog_11_method_54_code, 2, none, 1, 21)
theorem y_mod_weekday : cf_Y k_mod_weekday 1 := ⟨cf_in 1130 (by decide +kernel) (by decide +kernel), by decide +kernel, ⟨by decide +kernel, by decide +kernel, by decide +kernel⟩, cf_in 95 (by decide +kernel) (by decide +kernel)⟩
def k_mod_timeField : cf_M := (⟨"CellFormatterModel", "timeField", "(IIJI)V"⟩, prog_11_method_56_code, 11, none, 2, 47)
theorem y_mod_timeField : cf_Y k_mod_timeField 4 := ⟨cf_in 1134 (by decide +kernel) (by decide +kernel), by decide +kernel, ⟨by decide +kernel, by decide +kernel, by decide +kernel⟩, cf_in 95 (by decide +kernel) (by decide +kernel)⟩
def k_mod_plain : cf_M := (⟨"CellFormatterModel", "plain", "(I)V"⟩, prog_11_method_31_code, 3, none, 2, 43)
theorem y_mod_plain : cf_Y k_mod_plain 1 := ⟨cf_in 1140 (by decide +kernel) (by decide +kernel), by decide +kernel, ⟨by decide +kernel, by decide +kernel, by decide +kernel⟩, cf_in 95 (by decide +kernel) (by decide +kernel)⟩
def k_mod_reckon : cf_M := (⟨"CellFormatterModel", "reckon", "(IJ)V"⟩, prog_11_method_36_code, 12, none, 3, 69)
theorem y_mod_reckon : cf_Y k_mod_reckon 2 := ⟨cf_in 1144 (by decide +kernel) (by decide +kernel), by decide +kernel, ⟨by decide +kernel, by decide +kernel, by decide +kernel⟩, cf_in 95 (by decide +kernel) (by decide +kernel)⟩
def k_mod_round : cf_M := (⟨"CellFormatterModel", "round", "(JII)V"⟩, prog_11_method_33_code, 9, none, 0, 0)
theorem y_mod_round : cf_Y k_mod_round 3 := ⟨cf_in 1148 (by decide +kernel) (by decide +kernel), by decide +kernel, ⟨by decide +kernel, by decide +kernel, by decide +kernel⟩, cf_in 95 (by decide +kernel) (by decide +kernel)⟩
def k_mod_lengthOf : cf_M := (⟨"CellFormatterModel", "lengthOf", "(J)I"⟩, prog_11_method_32_code, 5, some .int, 0, 0)
theorem y_mod_lengthOf : cf_Y k_mod_lengthOf 1 := ⟨cf_in 1152 (by decide +kernel) (by decide +kernel), by decide +kernel, ⟨by decide +kernel, by decide +kernel, by decide +kernel⟩, cf_in 95 (by decide +kernel) (by decide +kernel)⟩
def k_mod_top : cf_M := (⟨"CellFormatterModel", "top", "()I"⟩, prog_11_method_34_code, 1, some .int, 1, 24)
theorem y_mod_top : cf_Y k_mod_top 0 := ⟨cf_in 1156 (by decide +kernel) (by decide +kernel), by decide +kernel, ⟨by decide +kernel, by decide +kernel, by decide +kernel⟩, cf_in 95 (by decide +kernel) (by decide +kernel)⟩
def k_mod_number : cf_M := (⟨"CellFormatterModel", "number", "(I)V"⟩, prog_11_method_41_code, 4, none, 4, 100)
theorem y_mod_number : cf_Y k_mod_number 1 := ⟨cf_in 1160 (by decide +kernel) (by decide +kernel), by decide +kernel, ⟨by decide +kernel, by decide +kernel, by decide +kernel⟩, cf_in 95 (by decide +kernel) (by decide +kernel)⟩
def k_mod_place : cf_M := (⟨"CellFormatterModel", "place", "(IIZ)V"⟩, prog_11_method_40_code, 8, none, 3, 73)
theorem y_mod_place : cf_Y k_mod_place 3 := ⟨cf_in 1164 (by decide +kernel) (by decide +kernel), by decide +kernel, ⟨by decide +kernel, by decide +kernel, by decide +kernel⟩, cf_in 95 (by decide +kernel) (by decide +kernel)⟩
def k_mod_integerPlace : cf_M := (⟨"CellFormatterModel", "integerPlace", "(IIZZ)V"⟩, prog_11_method_37_code, 7, none, 2, 44)
theorem y_mod_integerPlace : cf_Y k_mod_integerPlace 4 := ⟨cf_in 1168 (by decide +kernel) (by decide +kernel), by decide +kernel, ⟨by decide +kernel, by decide +kernel, by decide +kernel⟩, cf_in 95 (by decide +kernel) (by decide +kernel)⟩
def k_mod_digitOf : cf_M := (⟨"CellFormatterModel", "digitOf", "(I)I"⟩, prog_11_method_35_code, 6, some .int, 0, 0)
theorem y_mod_digitOf : cf_Y k_mod_digitOf 1 := ⟨cf_in 1172 (by decide +kernel) (by decide +kernel), by decide +kernel, ⟨by decide +kernel, by decide +kernel, by decide +kernel⟩, cf_in 95 (by decide +kernel) (by decide +kernel)⟩
def k_mod_fractionPlace : cf_M := (⟨"CellFormatterModel", "fractionPlace", "(II)V"⟩, prog_11_method_38_code, 5, none, 1, 25)
theorem y_mod_fractionPlace : cf_Y k_mod_fractionPlace 2 := ⟨cf_in 1176 (by decide +kernel) (by decide +kernel), by decide +kernel, ⟨by decide +kernel, by decide +kernel, by decide +kernel⟩, cf_in 95 (by decide +kernel) (by decide +kernel)⟩
def k_mod_exponentPlace : cf_M := (⟨"CellFormatterModel", "exponentPlace", "(IIZ)V"⟩, prog_11_method_39_code, 7, none, 2, 47)
theorem y_mod_exponentPlace : cf_Y k_mod_exponentPlace 3 := ⟨cf_in 1180 (by decide +kernel) (by decide +kernel), by decide +kernel, ⟨by decide +kernel, by decide +kernel, by decide +kernel⟩, cf_in 95 (by decide +kernel) (by decide +kernel)⟩
def k_mod_charAt : cf_M := (⟨"CellFormatterModel", "charAt", "(I)C"⟩, prog_11_method_59_code, 2, some .char, 0, 0)
theorem y_mod_charAt : cf_Y k_mod_charAt 1 := ⟨cf_in 1184 (by decide +kernel) (by decide +kernel), by decide +kernel, ⟨by decide +kernel, by decide +kernel, by decide +kernel⟩, cf_in 95 (by decide +kernel) (by decide +kernel)⟩
def k_mod_section : cf_M := (⟨"CellFormatterModel", "section", "()I"⟩, prog_11_method_60_code, 1, some .int, 0, 0)
theorem y_mod_section : cf_Y k_mod_section 0 := ⟨cf_in 1188 (by decide +kernel) (by decide +kernel), by decide +kernel, ⟨by decide +kernel, by decide +kernel, by decide +kernel⟩, cf_in 95 (by decide +kernel) (by decide +kernel)⟩
end
section
/-! words of fields, constants, calls -/
theorem f_fmt_13 : cf_F "CellFormatter" 13 8 1 0 (.int) false := ⟨RX8, TX8, 12, tyX8, rfl, inX8, tyX8_ok, nmX8, by decide, rfl, rfl, rfl, rfl, rfl, Or.inl (cf_in 324 (by decide +kernel) (by decide +kernel))⟩
theorem f_fmt_9 : cf_F "CellFormatter" 9 8 0 2 (.array .char) true := ⟨RX8, TX8, 12, tyX8, rfl, inX8, tyX8_ok, nmX8, by decide, rfl, rfl, rfl, rfl, rfl, Or.inl (cf_in 323 (by decide +kernel) (by decide +kernel))⟩
theorem f_fmt_40 : cf_F "CellFormatter" 40 8 5 0 (.int) false := ⟨RX8, TX8, 12, tyX8, rfl, inX8, tyX8_ok, nmX8, by decide, rfl, rfl, rfl, rfl, rfl, Or.inl (cf_in 328 (by decide +kernel) (by decide +kernel))⟩
theorem f_fmt_29 : cf_F "CellFormatter" 29 8 3 2 (.object "CellFormatter$Scanner") true := ⟨RX8, TX8, 12, tyX8, rfl, inX8, tyX8_ok, nmX8, by decide, rfl, rfl, rfl, rfl, rfl, Or.inl (cf_in 326 (by decide +kernel) (by decide +kernel))⟩
theorem w_fmt_82 : cf_cv "CellFormatter" 82 k_scn_scan := ⟨cf_in 372 (by decide +kernel) (by decide +kernel), cf_in 373 (by decide +kernel) (by decide +kernel), cf_in 374 (by decide +kernel) (by decide +kernel)⟩
theorem f_fmt_20 : cf_F "CellFormatter" 20 8 2 2 (.object "CellFormatter$Tokens") true := ⟨RX8, TX8, 12, tyX8, rfl, inX8, tyX8_ok, nmX8, by decide, rfl, rfl, rfl, rfl, rfl, Or.inl (cf_in 325 (by decide +kernel) (by decide +kernel))⟩
theorem f_fmt_86 : cf_F "CellFormatter" 86 7 3 0 (.int) false := ⟨RX7, TX7, 4, tyX7, rfl, inX7, tyX7_ok, nmX7, by decide, rfl, rfl, rfl, rfl, rfl, Or.inr ⟨"CellFormatter", List.mem_of_getElem? (i := 120) (by decide +kernel)⟩⟩
theorem w_fmt_89 : cf_cv "CellFormatter" 89 k_tok_count := ⟨cf_in 549 (by decide +kernel) (by decide +kernel), cf_in 550 (by decide +kernel) (by decide +kernel), cf_in 551 (by decide +kernel) (by decide +kernel)⟩
theorem w_fmt_93 : cf_cv "CellFormatter" 93 k_fmt_readParts := ⟨cf_in 557 (by decide +kernel) (by decide +kernel), cf_in 559 (by decide +kernel) (by decide +kernel), cf_in 13 (by decide +kernel) (by decide +kernel)⟩
theorem f_scn_15 : cf_F "CellFormatter$Scanner" 15 4 1 2 (.array .char) false := ⟨RX4, TX4, 3, tyX4, rfl, inX4, tyX4_ok, nmX4, by decide, rfl, rfl, rfl, rfl, rfl, Or.inl (cf_in 139 (by decide +kernel) (by decide +kernel))⟩
theorem w_scn_23 : cf_cs "CellFormatter$Scanner" 23 k_math_min := ⟨Or.inl (cf_in 376 (by decide +kernel) (by decide +kernel)), cf_in 377 (by decide +kernel) (by decide +kernel)⟩
theorem f_scn_19 : cf_F "CellFormatter$Scanner" 19 4 2 0 (.int) false := ⟨RX4, TX4, 3, tyX4, rfl, inX4, tyX4_ok, nmX4, by decide, rfl, rfl, rfl, rfl, rfl, Or.inl (cf_in 140 (by decide +kernel) (by decide +kernel))⟩
theorem f_scn_9 : cf_F "CellFormatter$Scanner" 9 4 0 2 (.object "CellFormatter$Tokens") true := ⟨RX4, TX4, 3, tyX4, rfl, inX4, tyX4_ok, nmX4, by decide, rfl, rfl, rfl, rfl, rfl, Or.inl (cf_in 138 (by decide +kernel) (by decide +kernel))⟩
theorem w_scn_29 : cf_cv "CellFormatter$Scanner" 29 k_tok_clear := ⟨cf_in 379 (by decide +kernel) (by decide +kernel), cf_in 380 (by decide +kernel) (by decide +kernel), cf_in 381 (by decide +kernel) (by decide +kernel)⟩
theorem w_scn_34 : cf_cv "CellFormatter$Scanner" 34 k_scn_scanToken := ⟨cf_in 383 (by decide +kernel) (by decide +kernel), cf_in 385 (by decide +kernel) (by decide +kernel), cf_in 0 (by decide +kernel) (by decide +kernel)⟩
theorem f_tok_21 : cf_F "CellFormatter$Tokens" 21 7 3 0 (.int) false := ⟨RX7, TX7, 4, tyX7, rfl, inX7, tyX7_ok, nmX7, by decide, rfl, rfl, rfl, rfl, rfl, Or.inl (cf_in 119 (by decide +kernel) (by decide +kernel))⟩
theorem w_scn_38 : cf_cv "CellFormatter$Scanner" 38 k_scn_at := ⟨cf_in 387 (by decide +kernel) (by decide +kernel), cf_in 389 (by decide +kernel) (by decide +kernel), cf_in 1 (by decide +kernel) (by decide +kernel)⟩
theorem w_scn_42 : cf_cv "CellFormatter$Scanner" 42 k_scn_scanQuoted := ⟨cf_in 391 (by decide +kernel) (by decide +kernel), cf_in 393 (by decide +kernel) (by decide +kernel), cf_in 2 (by decide +kernel) (by decide +kernel)⟩
theorem w_scn_45 : cf_cv "CellFormatter$Scanner" 45 k_scn_scanEscaped := ⟨cf_in 399 (by decide +kernel) (by decide +kernel), cf_in 401 (by decide +kernel) (by decide +kernel), cf_in 3 (by decide +kernel) (by decide +kernel)⟩
theorem w_scn_48 : cf_cv "CellFormatter$Scanner" 48 k_scn_scanBracket := ⟨cf_in 403 (by decide +kernel) (by decide +kernel), cf_in 405 (by decide +kernel) (by decide +kernel), cf_in 4 (by decide +kernel) (by decide +kernel)⟩
theorem w_scn_51 : cf_cv "CellFormatter$Scanner" 51 k_scn_scanExponent := ⟨cf_in 504 (by decide +kernel) (by decide +kernel), cf_in 506 (by decide +kernel) (by decide +kernel), cf_in 8 (by decide +kernel) (by decide +kernel)⟩
theorem w_scn_54 : cf_cv "CellFormatter$Scanner" 54 k_scn_scanMeridiem := ⟨cf_in 508 (by decide +kernel) (by decide +kernel), cf_in 510 (by decide +kernel) (by decide +kernel), cf_in 9 (by decide +kernel) (by decide +kernel)⟩
theorem w_scn_59 : cf_cv "CellFormatter$Scanner" 59 k_str_indexOf_I := ⟨cf_in 408 (by decide +kernel) (by decide +kernel), cf_in 409 (by decide +kernel) (by decide +kernel), cf_in 410 (by decide +kernel) (by decide +kernel)⟩
theorem w_scn_64 : cf_cv "CellFormatter$Scanner" 64 k_scn_scanField := ⟨cf_in 535 (by decide +kernel) (by decide +kernel), cf_in 537 (by decide +kernel) (by decide +kernel), cf_in 10 (by decide +kernel) (by decide +kernel)⟩
theorem w_scn_67 : cf_cv "CellFormatter$Scanner" 67 k_scn_scanSingle := ⟨cf_in 543 (by decide +kernel) (by decide +kernel), cf_in 545 (by decide +kernel) (by decide +kernel), cf_in 12 (by decide +kernel) (by decide +kernel)⟩
theorem w_scn_71 : cf_cv "CellFormatter$Scanner" 71 k_tok_add := ⟨cf_in 395 (by decide +kernel) (by decide +kernel), cf_in 396 (by decide +kernel) (by decide +kernel), cf_in 397 (by decide +kernel) (by decide +kernel)⟩
theorem f_tok_9 : cf_F "CellFormatter$Tokens" 9 7 0 2 (.array .int) true := ⟨RX7, TX7, 4, tyX7, rfl, inX7, tyX7_ok, nmX7, by decide, rfl, rfl, rfl, rfl, rfl, Or.inl (cf_in 116 (by decide +kernel) (by decide +kernel))⟩
theorem f_tok_15 : cf_F "CellFormatter$Tokens" 15 7 1 2 (.array .int) true := ⟨RX7, TX7, 4, tyX7, rfl, inX7, tyX7_ok, nmX7, by decide, rfl, rfl, rfl, rfl, rfl, Or.inl (cf_in 117 (by decide +kernel) (by decide +kernel))⟩
theorem f_tok_18 : cf_F "CellFormatter$Tokens" 18 7 2 2 (.array .int) true := ⟨RX7, TX7, 4, tyX7, rfl, inX7, tyX7_ok, nmX7, by decide, rfl, rfl, rfl, rfl, rfl, Or.inl (cf_in 118 (by decide +kernel) (by decide +kernel))⟩
theorem w_scn_77 : cf_cv "CellFormatter$Scanner" 77 k_scn_scanCondition := ⟨cf_in 492 (by decide +kernel) (by decide +kernel), cf_in 494 (by decide +kernel) (by decide +kernel), cf_in 5 (by decide +kernel) (by decide +kernel)⟩
theorem w_str_633 : cf_cv "java/lang/String" 633 k_str_indexOf_II := ⟨cf_in 412 (by decide +kernel) (by decide +kernel), cf_in 413 (by decide +kernel) (by decide +kernel), cf_in 414 (by decide +kernel) (by decide +kernel)⟩
theorem w_str_492 : cf_cv "java/lang/String" 492 k_str_isLatin1 := ⟨cf_in 416 (by decide +kernel) (by decide +kernel), cf_in 417 (by decide +kernel) (by decide +kernel), cf_in 418 (by decide +kernel) (by decide +kernel)⟩
theorem w_str_505 : cf_cv "java/lang/String" 505 k_str_length := ⟨cf_in 422 (by decide +kernel) (by decide +kernel), cf_in 423 (by decide +kernel) (by decide +kernel), cf_in 424 (by decide +kernel) (by decide +kernel)⟩
theorem w_str_637 : cf_cs "java/lang/String" 637 k_sla_indexOf := ⟨Or.inl (cf_in 430 (by decide +kernel) (by decide +kernel)), cf_in 431 (by decide +kernel) (by decide +kernel)⟩
theorem t_str_38 : Cond.fieldLink "java/lang/String" 38 "java/lang/String" "COMPACT_STRINGS" "Z" ∈ cf_T := cf_in 420 (by decide +kernel) (by decide +kernel)
theorem w_str_335 : cf_cv "java/lang/String" 335 k_str_coder := ⟨cf_in 426 (by decide +kernel) (by decide +kernel), cf_in 427 (by decide +kernel) (by decide +kernel), cf_in 428 (by decide +kernel) (by decide +kernel)⟩
theorem w_sla_88 : cf_cs "java/lang/StringLatin1" 88 k_sla_canEncode := ⟨Or.inl (cf_in 433 (by decide +kernel) (by decide +kernel)), cf_in 434 (by decide +kernel) (by decide +kernel)⟩
theorem w_sla_92 : cf_cs "java/lang/StringLatin1" 92 k_math_max := ⟨Or.inl (cf_in 436 (by decide +kernel) (by decide +kernel)), cf_in 437 (by decide +kernel) (by decide +kernel)⟩
theorem w_sla_38 : cf_cs "java/lang/StringLatin1" 38 k_math_min := ⟨Or.inl (cf_in 439 (by decide +kernel) (by decide +kernel)), cf_in 377 (by decide +kernel) (by decide +kernel)⟩
theorem w_sla_95 : cf_cs "java/lang/StringLatin1" 95 k_sla_indexOfChar := ⟨Or.inl (cf_in 440 (by decide +kernel) (by decide +kernel)), cf_in 441 (by decide +kernel) (by decide +kernel)⟩
theorem t_str_1053 : Cond.fieldLink "java/lang/String" 1053 "jdk/internal/util/Preconditions" "SIOOBE_FORMATTER" "Ljava/util/function/BiFunction;" ∈ cf_T := cf_in 461 (by decide +kernel) (by decide +kernel)
theorem w_str_1062 : cf_cs "java/lang/String" 1062 k_pre_checkFromToIndex := ⟨Or.inl (cf_in 463 (by decide +kernel) (by decide +kernel)), cf_in 464 (by decide +kernel) (by decide +kernel)⟩
theorem w_scn_80 : cf_cv "CellFormatter$Scanner" 80 k_scn_testAt := ⟨cf_in 496 (by decide +kernel) (by decide +kernel), cf_in 498 (by decide +kernel) (by decide +kernel), cf_in 6 (by decide +kernel) (by decide +kernel)⟩
theorem w_scn_83 : cf_cv "CellFormatter$Scanner" 83 k_scn_isDigit := ⟨cf_in 500 (by decide +kernel) (by decide +kernel), cf_in 502 (by decide +kernel) (by decide +kernel), cf_in 7 (by decide +kernel) (by decide +kernel)⟩
theorem w_scn_89 : cf_cv "CellFormatter$Scanner" 89 k_str_length := ⟨cf_in 513 (by decide +kernel) (by decide +kernel), cf_in 423 (by decide +kernel) (by decide +kernel), cf_in 424 (by decide +kernel) (by decide +kernel)⟩
theorem w_scn_92 : cf_cv "CellFormatter$Scanner" 92 k_str_charAt := ⟨cf_in 514 (by decide +kernel) (by decide +kernel), cf_in 515 (by decide +kernel) (by decide +kernel), cf_in 516 (by decide +kernel) (by decide +kernel)⟩
theorem w_str_495 : cf_cs "java/lang/String" 495 k_sla_charAt := ⟨Or.inl (cf_in 518 (by decide +kernel) (by decide +kernel)), cf_in 519 (by decide +kernel) (by decide +kernel)⟩
theorem w_sla_9 : cf_cs "java/lang/StringLatin1" 9 k_str_checkIndex := ⟨Or.inl (cf_in 521 (by decide +kernel) (by decide +kernel)), cf_in 522 (by decide +kernel) (by decide +kernel)⟩
theorem w_str_1059 : cf_cs "java/lang/String" 1059 k_pre_checkIndex := ⟨Or.inl (cf_in 524 (by decide +kernel) (by decide +kernel)), cf_in 525 (by decide +kernel) (by decide +kernel)⟩
theorem w_scn_95 : cf_cv "CellFormatter$Scanner" 95 k_scn_isFieldLength := ⟨cf_in 539 (by decide +kernel) (by decide +kernel), cf_in 541 (by decide +kernel) (by decide +kernel), cf_in 11 (by decide +kernel) (by decide +kernel)⟩
theorem w_tok_25 : cf_cv "CellFormatter$Tokens" 25 k_tok_typeAt := ⟨cf_in 553 (by decide +kernel) (by decide +kernel), cf_in 554 (by decide +kernel) (by decide +kernel), cf_in 555 (by decide +kernel) (by decide +kernel)⟩
theorem f_fmt_43 : cf_F "CellFormatter" 43 8 6 0 (.boolean) false := ⟨RX8, TX8, 12, tyX8, rfl, inX8, tyX8_ok, nmX8, by decide, rfl, rfl, rfl, rfl, rfl, Or.inl (cf_in 329 (by decide +kernel) (by decide +kernel))⟩
theorem w_fmt_144 : cf_cv "CellFormatter" 144 k_tok_find := ⟨cf_in 561 (by decide +kernel) (by decide +kernel), cf_in 562 (by decide +kernel) (by decide +kernel), cf_in 563 (by decide +kernel) (by decide +kernel)⟩
theorem f_fmt_35 : cf_F "CellFormatter" 35 8 4 2 (.array (.object "CellFormatter$Section")) true := ⟨RX8, TX8, 12, tyX8, rfl, inX8, tyX8_ok, nmX8, by decide, rfl, rfl, rfl, rfl, rfl, Or.inl (cf_in 327 (by decide +kernel) (by decide +kernel))⟩
theorem w_fmt_147 : cf_cv "CellFormatter" 147 k_sec_read := ⟨cf_in 565 (by decide +kernel) (by decide +kernel), cf_in 566 (by decide +kernel) (by decide +kernel), cf_in 567 (by decide +kernel) (by decide +kernel)⟩
theorem w_fmt_151 : cf_cv "CellFormatter" 151 k_sec_hasCondition := ⟨cf_in 629 (by decide +kernel) (by decide +kernel), cf_in 630 (by decide +kernel) (by decide +kernel), cf_in 631 (by decide +kernel) (by decide +kernel)⟩
theorem f_sec_15 : cf_F "CellFormatter$Section" 15 5 0 0 (.int) false := ⟨RX5, TX5, 15, tyX5, rfl, inX5, tyX5_ok, nmX5, by decide, rfl, rfl, rfl, rfl, rfl, Or.inl (cf_in 155 (by decide +kernel) (by decide +kernel))⟩
theorem f_sec_18 : cf_F "CellFormatter$Section" 18 5 1 0 (.int) false := ⟨RX5, TX5, 15, tyX5, rfl, inX5, tyX5_ok, nmX5, by decide, rfl, rfl, rfl, rfl, rfl, Or.inl (cf_in 159 (by decide +kernel) (by decide +kernel))⟩
theorem w_sec_21 : cf_cv "CellFormatter$Section" 21 k_tok_count := ⟨cf_in 569 (by decide +kernel) (by decide +kernel), cf_in 550 (by decide +kernel) (by decide +kernel), cf_in 551 (by decide +kernel) (by decide +kernel)⟩
theorem w_sec_27 : cf_cv "CellFormatter$Section" 27 k_sec_countFields := ⟨cf_in 570 (by decide +kernel) (by decide +kernel), cf_in 572 (by decide +kernel) (by decide +kernel), cf_in 14 (by decide +kernel) (by decide +kernel)⟩
theorem f_sec_9 : cf_F "CellFormatter$Section" 9 5 2 0 (.int) false := ⟨RX5, TX5, 15, tyX5, rfl, inX5, tyX5_ok, nmX5, by decide, rfl, rfl, rfl, rfl, rfl, Or.inl (cf_in 163 (by decide +kernel) (by decide +kernel))⟩
theorem w_sec_31 : cf_cv "CellFormatter$Section" 31 k_sec_readCondition := ⟨cf_in 578 (by decide +kernel) (by decide +kernel), cf_in 580 (by decide +kernel) (by decide +kernel), cf_in 15 (by decide +kernel) (by decide +kernel)⟩
theorem w_sec_35 : cf_cv "CellFormatter$Section" 35 k_sec_readNumber := ⟨cf_in 592 (by decide +kernel) (by decide +kernel), cf_in 594 (by decide +kernel) (by decide +kernel), cf_in 16 (by decide +kernel) (by decide +kernel)⟩
theorem w_sec_38 : cf_cv "CellFormatter$Section" 38 k_sec_readFields := ⟨cf_in 609 (by decide +kernel) (by decide +kernel), cf_in 611 (by decide +kernel) (by decide +kernel), cf_in 18 (by decide +kernel) (by decide +kernel)⟩
theorem w_sec_42 : cf_cv "CellFormatter$Section" 42 k_sec_hasNumberMarks := ⟨cf_in 625 (by decide +kernel) (by decide +kernel), cf_in 627 (by decide +kernel) (by decide +kernel), cf_in 21 (by decide +kernel) (by decide +kernel)⟩
theorem w_sec_59 : cf_cv "CellFormatter$Section" 59 k_tok_isField := ⟨cf_in 574 (by decide +kernel) (by decide +kernel), cf_in 575 (by decide +kernel) (by decide +kernel), cf_in 576 (by decide +kernel) (by decide +kernel)⟩
theorem f_sec_45 : cf_F "CellFormatter$Section" 45 5 3 0 (.int) false := ⟨RX5, TX5, 15, tyX5, rfl, inX5, tyX5_ok, nmX5, by decide, rfl, rfl, rfl, rfl, rfl, Or.inl (cf_in 165 (by decide +kernel) (by decide +kernel))⟩
theorem f_sec_52 : cf_F "CellFormatter$Section" 52 5 4 1 (.long) false := ⟨RX5, TX5, 15, tyX5, rfl, inX5, tyX5_ok, nmX5, by decide, rfl, rfl, rfl, rfl, rfl, Or.inl (cf_in 166 (by decide +kernel) (by decide +kernel))⟩
theorem w_sec_63 : cf_cv "CellFormatter$Section" 63 k_tok_typeAt := ⟨cf_in 582 (by decide +kernel) (by decide +kernel), cf_in 554 (by decide +kernel) (by decide +kernel), cf_in 555 (by decide +kernel) (by decide +kernel)⟩
theorem w_sec_67 : cf_cv "CellFormatter$Section" 67 k_tok_detailAt := ⟨cf_in 583 (by decide +kernel) (by decide +kernel), cf_in 584 (by decide +kernel) (by decide +kernel), cf_in 585 (by decide +kernel) (by decide +kernel)⟩
theorem w_sec_70 : cf_cv "CellFormatter$Section" 70 k_tok_valueAt := ⟨cf_in 587 (by decide +kernel) (by decide +kernel), cf_in 588 (by decide +kernel) (by decide +kernel), cf_in 589 (by decide +kernel) (by decide +kernel)⟩
theorem l_sec_73 : Cond.constantLong "CellFormatter$Section" 73 1000000 ∈ cf_T := cf_in 591 (by decide +kernel) (by decide +kernel)
theorem f_sec_75 : cf_F "CellFormatter$Section" 75 5 10 0 (.int) false := ⟨RX5, TX5, 15, tyX5, rfl, inX5, tyX5_ok, nmX5, by decide, rfl, rfl, rfl, rfl, rfl, Or.inl (cf_in 178 (by decide +kernel) (by decide +kernel))⟩
theorem w_sec_78 : cf_cv "CellFormatter$Section" 78 k_tok_find := ⟨cf_in 596 (by decide +kernel) (by decide +kernel), cf_in 562 (by decide +kernel) (by decide +kernel), cf_in 563 (by decide +kernel) (by decide +kernel)⟩
theorem f_sec_56 : cf_F "CellFormatter$Section" 56 5 6 0 (.int) false := ⟨RX5, TX5, 15, tyX5, rfl, inX5, tyX5_ok, nmX5, by decide, rfl, rfl, rfl, rfl, rfl, Or.inl (cf_in 169 (by decide +kernel) (by decide +kernel))⟩
theorem f_sec_81 : cf_F "CellFormatter$Section" 81 5 5 0 (.int) false := ⟨RX5, TX5, 15, tyX5, rfl, inX5, tyX5_ok, nmX5, by decide, rfl, rfl, rfl, rfl, rfl, Or.inl (cf_in 168 (by decide +kernel) (by decide +kernel))⟩
theorem f_sec_84 : cf_F "CellFormatter$Section" 84 5 7 0 (.int) false := ⟨RX5, TX5, 15, tyX5, rfl, inX5, tyX5_ok, nmX5, by decide, rfl, rfl, rfl, rfl, rfl, Or.inl (cf_in 172 (by decide +kernel) (by decide +kernel))⟩
theorem f_sec_87 : cf_F "CellFormatter$Section" 87 5 8 0 (.int) false := ⟨RX5, TX5, 15, tyX5, rfl, inX5, tyX5_ok, nmX5, by decide, rfl, rfl, rfl, rfl, rfl, Or.inl (cf_in 174 (by decide +kernel) (by decide +kernel))⟩
theorem f_sec_90 : cf_F "CellFormatter$Section" 90 5 9 0 (.int) false := ⟨RX5, TX5, 15, tyX5, rfl, inX5, tyX5_ok, nmX5, by decide, rfl, rfl, rfl, rfl, rfl, Or.inl (cf_in 176 (by decide +kernel) (by decide +kernel))⟩
theorem w_sec_93 : cf_cv "CellFormatter$Section" 93 k_sec_hasExponent := ⟨cf_in 597 (by decide +kernel) (by decide +kernel), cf_in 598 (by decide +kernel) (by decide +kernel), cf_in 599 (by decide +kernel) (by decide +kernel)⟩
theorem w_sec_96 : cf_cv "CellFormatter$Section" 96 k_sec_readCommas := ⟨cf_in 601 (by decide +kernel) (by decide +kernel), cf_in 603 (by decide +kernel) (by decide +kernel), cf_in 17 (by decide +kernel) (by decide +kernel)⟩
theorem f_sec_99 : cf_F "CellFormatter$Section" 99 5 12 0 (.boolean) false := ⟨RX5, TX5, 15, tyX5, rfl, inX5, tyX5_ok, nmX5, by decide, rfl, rfl, rfl, rfl, rfl, Or.inl (cf_in 182 (by decide +kernel) (by decide +kernel))⟩
theorem f_sec_103 : cf_F "CellFormatter$Section" 103 5 11 0 (.int) false := ⟨RX5, TX5, 15, tyX5, rfl, inX5, tyX5_ok, nmX5, by decide, rfl, rfl, rfl, rfl, rfl, Or.inl (cf_in 180 (by decide +kernel) (by decide +kernel))⟩
theorem w_sec_106 : cf_cv "CellFormatter$Section" 106 k_tok_findLast := ⟨cf_in 605 (by decide +kernel) (by decide +kernel), cf_in 606 (by decide +kernel) (by decide +kernel), cf_in 607 (by decide +kernel) (by decide +kernel)⟩
theorem f_sec_109 : cf_F "CellFormatter$Section" 109 5 13 0 (.boolean) false := ⟨RX5, TX5, 15, tyX5, rfl, inX5, tyX5_ok, nmX5, by decide, rfl, rfl, rfl, rfl, rfl, Or.inl (cf_in 184 (by decide +kernel) (by decide +kernel))⟩
theorem f_sec_112 : cf_F "CellFormatter$Section" 112 5 14 0 (.boolean) false := ⟨RX5, TX5, 15, tyX5, rfl, inX5, tyX5_ok, nmX5, by decide, rfl, rfl, rfl, rfl, rfl, Or.inl (cf_in 186 (by decide +kernel) (by decide +kernel))⟩
theorem w_sec_115 : cf_cv "CellFormatter$Section" 115 k_sec_letterBefore := ⟨cf_in 613 (by decide +kernel) (by decide +kernel), cf_in 615 (by decide +kernel) (by decide +kernel), cf_in 19 (by decide +kernel) (by decide +kernel)⟩
theorem w_sec_119 : cf_cv "CellFormatter$Section" 119 k_sec_letterBehind := ⟨cf_in 617 (by decide +kernel) (by decide +kernel), cf_in 619 (by decide +kernel) (by decide +kernel), cf_in 20 (by decide +kernel) (by decide +kernel)⟩
theorem w_sec_122 : cf_cv "CellFormatter$Section" 122 k_tok_setValue := ⟨cf_in 621 (by decide +kernel) (by decide +kernel), cf_in 622 (by decide +kernel) (by decide +kernel), cf_in 623 (by decide +kernel) (by decide +kernel)⟩
theorem f_fmt_97 : cf_F "CellFormatter" 97 5 2 0 (.int) false := ⟨RX5, TX5, 15, tyX5, rfl, inX5, tyX5_ok, nmX5, by decide, rfl, rfl, rfl, rfl, rfl, Or.inr ⟨"CellFormatter", List.mem_of_getElem? (i := 164) (by decide +kernel)⟩⟩
theorem f_fmt_50 : cf_F "CellFormatter" 50 8 7 2 (.object "CellFormatter$Calendar") true := ⟨RX8, TX8, 12, tyX8, rfl, inX8, tyX8_ok, nmX8, by decide, rfl, rfl, rfl, rfl, rfl, Or.inl (cf_in 330 (by decide +kernel) (by decide +kernel))⟩
theorem f_fmt_100 : cf_F "CellFormatter" 100 0 0 0 (.boolean) false := ⟨RX0, TX0, 5, tyX0, rfl, inX0, tyX0_ok, nmX0, by decide, rfl, rfl, rfl, rfl, rfl, Or.inr ⟨"CellFormatter", List.mem_of_getElem? (i := 225) (by decide +kernel)⟩⟩
theorem f_fmt_57 : cf_F "CellFormatter" 57 8 8 2 (.object "CellFormatter$Text") true := ⟨RX8, TX8, 12, tyX8, rfl, inX8, tyX8_ok, nmX8, by decide, rfl, rfl, rfl, rfl, rfl, Or.inl (cf_in 331 (by decide +kernel) (by decide +kernel))⟩
theorem w_fmt_103 : cf_cv "CellFormatter" 103 k_txt_clear := ⟨cf_in 650 (by decide +kernel) (by decide +kernel), cf_in 651 (by decide +kernel) (by decide +kernel), cf_in 652 (by decide +kernel) (by decide +kernel)⟩
theorem f_fmt_61 : cf_F "CellFormatter" 61 8 9 0 (.int) false := ⟨RX8, TX8, 12, tyX8, rfl, inX8, tyX8_ok, nmX8, by decide, rfl, rfl, rfl, rfl, rfl, Or.inl (cf_in 332 (by decide +kernel) (by decide +kernel))⟩
theorem l_fmt_106 : Cond.constantLong "CellFormatter" 106 (-1000000000000000) ∈ cf_T := cf_in 654 (by decide +kernel) (by decide +kernel)
theorem l_fmt_108 : Cond.constantLong "CellFormatter" 108 1000000000000000 ∈ cf_T := cf_in 655 (by decide +kernel) (by decide +kernel)
theorem w_fmt_110 : cf_cv "CellFormatter" 110 k_fmt_choosePart := ⟨cf_in 656 (by decide +kernel) (by decide +kernel), cf_in 658 (by decide +kernel) (by decide +kernel), cf_in 22 (by decide +kernel) (by decide +kernel)⟩
theorem w_fmt_114 : cf_cv "CellFormatter" 114 k_fmt_writeBy := ⟨cf_in 669 (by decide +kernel) (by decide +kernel), cf_in 671 (by decide +kernel) (by decide +kernel), cf_in 24 (by decide +kernel) (by decide +kernel)⟩
theorem f_fmt_118 : cf_F "CellFormatter" 118 6 1 0 (.int) false := ⟨RX6, TX6, 2, tyX6, rfl, inX6, tyX6_ok, nmX6, by decide, rfl, rfl, rfl, rfl, rfl, Or.inr ⟨"CellFormatter", List.mem_of_getElem? (i := 257) (by decide +kernel)⟩⟩
theorem f_txt_15 : cf_F "CellFormatter$Text" 15 6 1 0 (.int) false := ⟨RX6, TX6, 2, tyX6, rfl, inX6, tyX6_ok, nmX6, by decide, rfl, rfl, rfl, rfl, rfl, Or.inl (cf_in 256 (by decide +kernel) (by decide +kernel))⟩
theorem w_fmt_155 : cf_cv "CellFormatter" 155 k_fmt_chooseByCondition := ⟨cf_in 660 (by decide +kernel) (by decide +kernel), cf_in 662 (by decide +kernel) (by decide +kernel), cf_in 23 (by decide +kernel) (by decide +kernel)⟩
theorem w_fmt_158 : cf_cv "CellFormatter" 158 k_sec_admits := ⟨cf_in 664 (by decide +kernel) (by decide +kernel), cf_in 665 (by decide +kernel) (by decide +kernel), cf_in 666 (by decide +kernel) (by decide +kernel)⟩
theorem w_sec_48 : cf_cv "CellFormatter$Section" 48 k_sec_hasCondition := ⟨cf_in 668 (by decide +kernel) (by decide +kernel), cf_in 630 (by decide +kernel) (by decide +kernel), cf_in 631 (by decide +kernel) (by decide +kernel)⟩
theorem f_fmt_78 : cf_F "CellFormatter" 78 8 11 2 (.object "CellFormatter$MomentWriter") true := ⟨RX8, TX8, 12, tyX8, rfl, inX8, tyX8_ok, nmX8, by decide, rfl, rfl, rfl, rfl, rfl, Or.inl (cf_in 334 (by decide +kernel) (by decide +kernel))⟩
theorem w_fmt_162 : cf_cv "CellFormatter" 162 k_mom_write := ⟨cf_in 673 (by decide +kernel) (by decide +kernel), cf_in 674 (by decide +kernel) (by decide +kernel), cf_in 675 (by decide +kernel) (by decide +kernel)⟩
theorem f_fmt_69 : cf_F "CellFormatter" 69 8 10 2 (.object "CellFormatter$NumberWriter") true := ⟨RX8, TX8, 12, tyX8, rfl, inX8, tyX8_ok, nmX8, by decide, rfl, rfl, rfl, rfl, rfl, Or.inl (cf_in 333 (by decide +kernel) (by decide +kernel))⟩
theorem w_fmt_166 : cf_cs "CellFormatter" 166 k_math_abs_J := ⟨Or.inl (cf_in 766 (by decide +kernel) (by decide +kernel)), cf_in 767 (by decide +kernel) (by decide +kernel)⟩
theorem w_fmt_172 : cf_cv "CellFormatter" 172 k_num_write := ⟨cf_in 769 (by decide +kernel) (by decide +kernel), cf_in 770 (by decide +kernel) (by decide +kernel), cf_in 771 (by decide +kernel) (by decide +kernel)⟩
theorem w_fmt_175 : cf_cv "CellFormatter" 175 k_fmt_writePlain := ⟨cf_in 843 (by decide +kernel) (by decide +kernel), cf_in 845 (by decide +kernel) (by decide +kernel), cf_in 40 (by decide +kernel) (by decide +kernel)⟩
theorem w_mom_19 : cf_cv "CellFormatter$MomentWriter" 19 k_mom_roundToSeconds := ⟨cf_in 677 (by decide +kernel) (by decide +kernel), cf_in 679 (by decide +kernel) (by decide +kernel), cf_in 25 (by decide +kernel) (by decide +kernel)⟩
theorem f_mom_23 : cf_F "CellFormatter$MomentWriter" 23 2 2 1 (.long) false := ⟨RX2, TX2, 4, tyX2, rfl, inX2, tyX2_ok, nmX2, by decide, rfl, rfl, rfl, rfl, rfl, Or.inl (cf_in 312 (by decide +kernel) (by decide +kernel))⟩
theorem f_mom_15 : cf_F "CellFormatter$MomentWriter" 15 2 1 2 (.object "CellFormatter$Calendar") true := ⟨RX2, TX2, 4, tyX2, rfl, inX2, tyX2_ok, nmX2, by decide, rfl, rfl, rfl, rfl, rfl, Or.inl (cf_in 311 (by decide +kernel) (by decide +kernel))⟩
theorem w_mom_27 : cf_cv "CellFormatter$MomentWriter" 27 k_cal_lastSerial := ⟨cf_in 685 (by decide +kernel) (by decide +kernel), cf_in 686 (by decide +kernel) (by decide +kernel), cf_in 687 (by decide +kernel) (by decide +kernel)⟩
theorem f_mom_33 : cf_F "CellFormatter$MomentWriter" 33 5 14 0 (.boolean) false := ⟨RX5, TX5, 15, tyX5, rfl, inX5, tyX5_ok, nmX5, by decide, rfl, rfl, rfl, rfl, rfl, Or.inr ⟨"CellFormatter", List.mem_of_getElem? (i := 185) (by decide +kernel)⟩⟩
theorem w_mom_39 : cf_cv "CellFormatter$MomentWriter" 39 k_cal_findDay := ⟨cf_in 691 (by decide +kernel) (by decide +kernel), cf_in 692 (by decide +kernel) (by decide +kernel), cf_in 693 (by decide +kernel) (by decide +kernel)⟩
theorem f_mom_43 : cf_F "CellFormatter$MomentWriter" 43 5 0 0 (.int) false := ⟨RX5, TX5, 15, tyX5, rfl, inX5, tyX5_ok, nmX5, by decide, rfl, rfl, rfl, rfl, rfl, Or.inr ⟨"CellFormatter", List.mem_of_getElem? (i := 157) (by decide +kernel)⟩⟩
theorem f_mom_47 : cf_F "CellFormatter$MomentWriter" 47 5 1 0 (.int) false := ⟨RX5, TX5, 15, tyX5, rfl, inX5, tyX5_ok, nmX5, by decide, rfl, rfl, rfl, rfl, rfl, Or.inr ⟨"CellFormatter", List.mem_of_getElem? (i := 161) (by decide +kernel)⟩⟩
theorem f_mom_50 : cf_F "CellFormatter$MomentWriter" 50 5 13 0 (.boolean) false := ⟨RX5, TX5, 15, tyX5, rfl, inX5, tyX5_ok, nmX5, by decide, rfl, rfl, rfl, rfl, rfl, Or.inr ⟨"CellFormatter", List.mem_of_getElem? (i := 183) (by decide +kernel)⟩⟩
theorem w_mom_53 : cf_cv "CellFormatter$MomentWriter" 53 k_mom_writeToken := ⟨cf_in 714 (by decide +kernel) (by decide +kernel), cf_in 716 (by decide +kernel) (by decide +kernel), cf_in 27 (by decide +kernel) (by decide +kernel)⟩
theorem l_mom_57 : Cond.constantLong "CellFormatter$MomentWriter" 57 1000000 ∈ cf_T := cf_in 681 (by decide +kernel) (by decide +kernel)
theorem l_mom_59 : Cond.constantLong "CellFormatter$MomentWriter" 59 86400 ∈ cf_T := cf_in 682 (by decide +kernel) (by decide +kernel)
theorem l_mom_61 : Cond.constantLong "CellFormatter$MomentWriter" 61 500000 ∈ cf_T := cf_in 683 (by decide +kernel) (by decide +kernel)
theorem f_mom_63 : cf_F "CellFormatter$MomentWriter" 63 2 3 0 (.int) false := ⟨RX2, TX2, 4, tyX2, rfl, inX2, tyX2_ok, nmX2, by decide, rfl, rfl, rfl, rfl, rfl, Or.inl (cf_in 313 (by decide +kernel) (by decide +kernel))⟩
theorem l_mom_66 : Cond.constant "CellFormatter$MomentWriter" 66 86400 ∈ cf_T := cf_in 684 (by decide +kernel) (by decide +kernel)
theorem f_cal_9 : cf_F "CellFormatter$Calendar" 9 0 0 0 (.boolean) false := ⟨RX0, TX0, 5, tyX0, rfl, inX0, tyX0_ok, nmX0, by decide, rfl, rfl, rfl, rfl, rfl, Or.inl (cf_in 224 (by decide +kernel) (by decide +kernel))⟩
theorem l_cal_15 : Cond.constant "CellFormatter$Calendar" 15 2957003 ∈ cf_T := cf_in 689 (by decide +kernel) (by decide +kernel)
theorem l_cal_16 : Cond.constant "CellFormatter$Calendar" 16 2958465 ∈ cf_T := cf_in 690 (by decide +kernel) (by decide +kernel)
theorem w_cal_17 : cf_cv "CellFormatter$Calendar" 17 k_cal_lastSerial := ⟨cf_in 695 (by decide +kernel) (by decide +kernel), cf_in 686 (by decide +kernel) (by decide +kernel), cf_in 687 (by decide +kernel) (by decide +kernel)⟩
theorem f_cal_21 : cf_F "CellFormatter$Calendar" 21 0 4 0 (.int) false := ⟨RX0, TX0, 5, tyX0, rfl, inX0, tyX0_ok, nmX0, by decide, rfl, rfl, rfl, rfl, rfl, Or.inl (cf_in 235 (by decide +kernel) (by decide +kernel))⟩
theorem w_cal_25 : cf_cs "CellFormatter$Calendar" 25 k_cal_daysBeforeYear := ⟨Or.inl (cf_in 696 (by decide +kernel) (by decide +kernel)), cf_in 697 (by decide +kernel) (by decide +kernel)⟩
theorem w_cal_29 : cf_cv "CellFormatter$Calendar" 29 k_cal_setDate := ⟨cf_in 699 (by decide +kernel) (by decide +kernel), cf_in 701 (by decide +kernel) (by decide +kernel), cf_in 26 (by decide +kernel) (by decide +kernel)⟩
theorem f_cal_33 : cf_F "CellFormatter$Calendar" 33 0 1 0 (.int) false := ⟨RX0, TX0, 5, tyX0, rfl, inX0, tyX0_ok, nmX0, by decide, rfl, rfl, rfl, rfl, rfl, Or.inl (cf_in 226 (by decide +kernel) (by decide +kernel))⟩
theorem f_cal_36 : cf_F "CellFormatter$Calendar" 36 0 2 0 (.int) false := ⟨RX0, TX0, 5, tyX0, rfl, inX0, tyX0_ok, nmX0, by decide, rfl, rfl, rfl, rfl, rfl, Or.inl (cf_in 229 (by decide +kernel) (by decide +kernel))⟩
theorem f_cal_39 : cf_F "CellFormatter$Calendar" 39 0 3 0 (.int) false := ⟨RX0, TX0, 5, tyX0, rfl, inX0, tyX0_ok, nmX0, by decide, rfl, rfl, rfl, rfl, rfl, Or.inl (cf_in 232 (by decide +kernel) (by decide +kernel))⟩
theorem w_cal_46 : cf_cs "CellFormatter$Calendar" 46 k_cal_yearOf := ⟨Or.inl (cf_in 703 (by decide +kernel) (by decide +kernel)), cf_in 704 (by decide +kernel) (by decide +kernel)⟩
theorem w_cal_42 : cf_cs "CellFormatter$Calendar" 42 k_cal_monthLength := ⟨Or.inl (cf_in 706 (by decide +kernel) (by decide +kernel)), cf_in 707 (by decide +kernel) (by decide +kernel)⟩
theorem w_cal_49 : cf_cs "CellFormatter$Calendar" 49 k_cal_isLeap := ⟨Or.inl (cf_in 709 (by decide +kernel) (by decide +kernel)), cf_in 710 (by decide +kernel) (by decide +kernel)⟩
theorem t_cal_53 : Cond.fieldLink "CellFormatter$Calendar" 53 "CellFormatter$Calendar" "MONTH_LENGTHS" "[I" ∈ cf_T := cf_in 712 (by decide +kernel) (by decide +kernel)
theorem w_mom_67 : cf_cv "CellFormatter$MomentWriter" 67 k_tok_typeAt := ⟨cf_in 718 (by decide +kernel) (by decide +kernel), cf_in 554 (by decide +kernel) (by decide +kernel), cf_in 555 (by decide +kernel) (by decide +kernel)⟩
theorem f_mom_9 : cf_F "CellFormatter$MomentWriter" 9 2 0 2 (.object "CellFormatter$Text") true := ⟨RX2, TX2, 4, tyX2, rfl, inX2, tyX2_ok, nmX2, by decide, rfl, rfl, rfl, rfl, rfl, Or.inl (cf_in 310 (by decide +kernel) (by decide +kernel))⟩
theorem w_mom_73 : cf_cv "CellFormatter$MomentWriter" 73 k_tok_valueAt := ⟨cf_in 719 (by decide +kernel) (by decide +kernel), cf_in 588 (by decide +kernel) (by decide +kernel), cf_in 589 (by decide +kernel) (by decide +kernel)⟩
theorem w_mom_76 : cf_cv "CellFormatter$MomentWriter" 76 k_txt_add := ⟨cf_in 720 (by decide +kernel) (by decide +kernel), cf_in 721 (by decide +kernel) (by decide +kernel), cf_in 722 (by decide +kernel) (by decide +kernel)⟩
theorem w_mom_82 : cf_cv "CellFormatter$MomentWriter" 82 k_mom_writeElapsed := ⟨cf_in 724 (by decide +kernel) (by decide +kernel), cf_in 726 (by decide +kernel) (by decide +kernel), cf_in 28 (by decide +kernel) (by decide +kernel)⟩
theorem w_mom_86 : cf_cv "CellFormatter$MomentWriter" 86 k_mom_hour := ⟨cf_in 745 (by decide +kernel) (by decide +kernel), cf_in 747 (by decide +kernel) (by decide +kernel), cf_in 29 (by decide +kernel) (by decide +kernel)⟩
theorem w_mom_89 : cf_cv "CellFormatter$MomentWriter" 89 k_tok_detailAt := ⟨cf_in 749 (by decide +kernel) (by decide +kernel), cf_in 584 (by decide +kernel) (by decide +kernel), cf_in 585 (by decide +kernel) (by decide +kernel)⟩
theorem w_mom_92 : cf_cv "CellFormatter$MomentWriter" 92 k_mom_writeField := ⟨cf_in 750 (by decide +kernel) (by decide +kernel), cf_in 752 (by decide +kernel) (by decide +kernel), cf_in 30 (by decide +kernel) (by decide +kernel)⟩
theorem f_txt_9 : cf_F "CellFormatter$Text" 9 6 0 2 (.array .char) true := ⟨RX6, TX6, 2, tyX6, rfl, inX6, tyX6_ok, nmX6, by decide, rfl, rfl, rfl, rfl, rfl, Or.inl (cf_in 255 (by decide +kernel) (by decide +kernel))⟩
theorem l_mom_96 : Cond.constantLong "CellFormatter$MomentWriter" 96 3600 ∈ cf_T := cf_in 728 (by decide +kernel) (by decide +kernel)
theorem w_mom_98 : cf_cv "CellFormatter$MomentWriter" 98 k_txt_addNumber := ⟨cf_in 729 (by decide +kernel) (by decide +kernel), cf_in 730 (by decide +kernel) (by decide +kernel), cf_in 731 (by decide +kernel) (by decide +kernel)⟩
theorem l_mom_102 : Cond.constantLong "CellFormatter$MomentWriter" 102 60 ∈ cf_T := cf_in 744 (by decide +kernel) (by decide +kernel)
theorem w_txt_19 : cf_cs "CellFormatter$Text" 19 k_fmt_countDigits := ⟨Or.inr ⟨"CellFormatter", List.mem_of_getElem? (i := 733) (by decide +kernel)⟩, cf_in 734 (by decide +kernel) (by decide +kernel)⟩
theorem w_txt_23 : cf_cs "CellFormatter$Text" 23 k_math_max := ⟨Or.inl (cf_in 738 (by decide +kernel) (by decide +kernel)), cf_in 437 (by decide +kernel) (by decide +kernel)⟩
theorem t_txt_29 : Cond.fieldLinkNest "CellFormatter$Text" 29 "CellFormatter" "POWERS" "[J" "CellFormatter" ∈ lw_tbl := List.mem_of_getElem? (i := 739) (by decide +kernel)
theorem w_txt_33 : cf_cs "CellFormatter$Text" 33 k_math_min := ⟨Or.inl (cf_in 740 (by decide +kernel) (by decide +kernel)), cf_in 377 (by decide +kernel) (by decide +kernel)⟩
theorem l_txt_36 : Cond.constantLong "CellFormatter$Text" 36 48 ∈ cf_T := cf_in 741 (by decide +kernel) (by decide +kernel)
theorem l_txt_38 : Cond.constantLong "CellFormatter$Text" 38 10 ∈ cf_T := cf_in 742 (by decide +kernel) (by decide +kernel)
theorem w_txt_40 : cf_cv "CellFormatter$Text" 40 k_txt_add := ⟨cf_in 743 (by decide +kernel) (by decide +kernel), cf_in 721 (by decide +kernel) (by decide +kernel), cf_in 722 (by decide +kernel) (by decide +kernel)⟩
theorem t_fmt_195 : Cond.fieldLink "CellFormatter" 195 "CellFormatter" "POWERS" "[J" ∈ cf_T := cf_in 736 (by decide +kernel) (by decide +kernel)
theorem w_mom_104 : cf_cv "CellFormatter$MomentWriter" 104 k_mom_numberOf := ⟨cf_in 754 (by decide +kernel) (by decide +kernel), cf_in 756 (by decide +kernel) (by decide +kernel), cf_in 31 (by decide +kernel) (by decide +kernel)⟩
theorem f_mom_110 : cf_F "CellFormatter$MomentWriter" 110 0 2 0 (.int) false := ⟨RX0, TX0, 5, tyX0, rfl, inX0, tyX0_ok, nmX0, by decide, rfl, rfl, rfl, rfl, rfl, Or.inr ⟨"CellFormatter", List.mem_of_getElem? (i := 230) (by decide +kernel)⟩⟩
theorem w_mom_113 : cf_cv "CellFormatter$MomentWriter" 113 k_mom_writeName := ⟨cf_in 759 (by decide +kernel) (by decide +kernel), cf_in 761 (by decide +kernel) (by decide +kernel), cf_in 32 (by decide +kernel) (by decide +kernel)⟩
theorem f_mom_119 : cf_F "CellFormatter$MomentWriter" 119 0 4 0 (.int) false := ⟨RX0, TX0, 5, tyX0, rfl, inX0, tyX0_ok, nmX0, by decide, rfl, rfl, rfl, rfl, rfl, Or.inr ⟨"CellFormatter", List.mem_of_getElem? (i := 236) (by decide +kernel)⟩⟩
theorem f_mom_122 : cf_F "CellFormatter$MomentWriter" 122 0 1 0 (.int) false := ⟨RX0, TX0, 5, tyX0, rfl, inX0, tyX0_ok, nmX0, by decide, rfl, rfl, rfl, rfl, rfl, Or.inr ⟨"CellFormatter", List.mem_of_getElem? (i := 227) (by decide +kernel)⟩⟩
theorem f_mom_125 : cf_F "CellFormatter$MomentWriter" 125 0 3 0 (.int) false := ⟨RX0, TX0, 5, tyX0, rfl, inX0, tyX0_ok, nmX0, by decide, rfl, rfl, rfl, rfl, rfl, Or.inr ⟨"CellFormatter", List.mem_of_getElem? (i := 233) (by decide +kernel)⟩⟩
theorem w_mom_128 : cf_cv "CellFormatter$MomentWriter" 128 k_str_length := ⟨cf_in 763 (by decide +kernel) (by decide +kernel), cf_in 423 (by decide +kernel) (by decide +kernel), cf_in 424 (by decide +kernel) (by decide +kernel)⟩
theorem w_mom_133 : cf_cv "CellFormatter$MomentWriter" 133 k_str_charAt := ⟨cf_in 764 (by decide +kernel) (by decide +kernel), cf_in 515 (by decide +kernel) (by decide +kernel), cf_in 516 (by decide +kernel) (by decide +kernel)⟩
theorem w_num_25 : cf_cv "CellFormatter$NumberWriter" 25 k_num_prepare := ⟨cf_in 773 (by decide +kernel) (by decide +kernel), cf_in 775 (by decide +kernel) (by decide +kernel), cf_in 33 (by decide +kernel) (by decide +kernel)⟩
theorem f_num_18 : cf_F "CellFormatter$NumberWriter" 18 3 1 2 (.object "CellFormatter$Decimal") true := ⟨RX3, TX3, 7, tyX3, rfl, inX3, tyX3_ok, nmX3, by decide, rfl, rfl, rfl, rfl, rfl, Or.inl (cf_in 283 (by decide +kernel) (by decide +kernel))⟩
theorem w_num_29 : cf_cv "CellFormatter$NumberWriter" 29 k_dec_isZero := ⟨cf_in 809 (by decide +kernel) (by decide +kernel), cf_in 787 (by decide +kernel) (by decide +kernel), cf_in 788 (by decide +kernel) (by decide +kernel)⟩
theorem f_num_9 : cf_F "CellFormatter$NumberWriter" 9 3 0 2 (.object "CellFormatter$Text") true := ⟨RX3, TX3, 7, tyX3, rfl, inX3, tyX3_ok, nmX3, by decide, rfl, rfl, rfl, rfl, rfl, Or.inl (cf_in 282 (by decide +kernel) (by decide +kernel))⟩
theorem w_num_33 : cf_cv "CellFormatter$NumberWriter" 33 k_txt_add := ⟨cf_in 810 (by decide +kernel) (by decide +kernel), cf_in 721 (by decide +kernel) (by decide +kernel), cf_in 722 (by decide +kernel) (by decide +kernel)⟩
theorem f_num_39 : cf_F "CellFormatter$NumberWriter" 39 5 0 0 (.int) false := ⟨RX5, TX5, 15, tyX5, rfl, inX5, tyX5_ok, nmX5, by decide, rfl, rfl, rfl, rfl, rfl, Or.inr ⟨"CellFormatter", List.mem_of_getElem? (i := 156) (by decide +kernel)⟩⟩
theorem f_num_45 : cf_F "CellFormatter$NumberWriter" 45 5 1 0 (.int) false := ⟨RX5, TX5, 15, tyX5, rfl, inX5, tyX5_ok, nmX5, by decide, rfl, rfl, rfl, rfl, rfl, Or.inr ⟨"CellFormatter", List.mem_of_getElem? (i := 160) (by decide +kernel)⟩⟩
theorem w_num_48 : cf_cv "CellFormatter$NumberWriter" 48 k_tok_typeAt := ⟨cf_in 811 (by decide +kernel) (by decide +kernel), cf_in 554 (by decide +kernel) (by decide +kernel), cf_in 555 (by decide +kernel) (by decide +kernel)⟩
theorem w_num_54 : cf_cv "CellFormatter$NumberWriter" 54 k_tok_valueAt := ⟨cf_in 812 (by decide +kernel) (by decide +kernel), cf_in 588 (by decide +kernel) (by decide +kernel), cf_in 589 (by decide +kernel) (by decide +kernel)⟩
theorem w_num_57 : cf_cv "CellFormatter$NumberWriter" 57 k_num_writePlace := ⟨cf_in 813 (by decide +kernel) (by decide +kernel), cf_in 815 (by decide +kernel) (by decide +kernel), cf_in 34 (by decide +kernel) (by decide +kernel)⟩
theorem w_num_61 : cf_cv "CellFormatter$NumberWriter" 61 k_num_writeExponentMark := ⟨cf_in 839 (by decide +kernel) (by decide +kernel), cf_in 841 (by decide +kernel) (by decide +kernel), cf_in 39 (by decide +kernel) (by decide +kernel)⟩
theorem f_num_65 : cf_F "CellFormatter$NumberWriter" 65 5 10 0 (.int) false := ⟨RX5, TX5, 15, tyX5, rfl, inX5, tyX5_ok, nmX5, by decide, rfl, rfl, rfl, rfl, rfl, Or.inr ⟨"CellFormatter", List.mem_of_getElem? (i := 177) (by decide +kernel)⟩⟩
theorem f_num_68 : cf_F "CellFormatter$NumberWriter" 68 5 11 0 (.int) false := ⟨RX5, TX5, 15, tyX5, rfl, inX5, tyX5_ok, nmX5, by decide, rfl, rfl, rfl, rfl, rfl, Or.inr ⟨"CellFormatter", List.mem_of_getElem? (i := 179) (by decide +kernel)⟩⟩
theorem w_num_71 : cf_cv "CellFormatter$NumberWriter" 71 k_dec_set := ⟨cf_in 777 (by decide +kernel) (by decide +kernel), cf_in 778 (by decide +kernel) (by decide +kernel), cf_in 779 (by decide +kernel) (by decide +kernel)⟩
theorem w_num_75 : cf_cv "CellFormatter$NumberWriter" 75 k_sec_hasExponent := ⟨cf_in 781 (by decide +kernel) (by decide +kernel), cf_in 598 (by decide +kernel) (by decide +kernel), cf_in 599 (by decide +kernel) (by decide +kernel)⟩
theorem f_num_78 : cf_F "CellFormatter$NumberWriter" 78 5 7 0 (.int) false := ⟨RX5, TX5, 15, tyX5, rfl, inX5, tyX5_ok, nmX5, by decide, rfl, rfl, rfl, rfl, rfl, Or.inr ⟨"CellFormatter", List.mem_of_getElem? (i := 171) (by decide +kernel)⟩⟩
theorem f_num_81 : cf_F "CellFormatter$NumberWriter" 81 5 8 0 (.int) false := ⟨RX5, TX5, 15, tyX5, rfl, inX5, tyX5_ok, nmX5, by decide, rfl, rfl, rfl, rfl, rfl, Or.inr ⟨"CellFormatter", List.mem_of_getElem? (i := 173) (by decide +kernel)⟩⟩
theorem w_num_84 : cf_cv "CellFormatter$NumberWriter" 84 k_dec_takeExponent := ⟨cf_in 782 (by decide +kernel) (by decide +kernel), cf_in 783 (by decide +kernel) (by decide +kernel), cf_in 784 (by decide +kernel) (by decide +kernel)⟩
theorem w_num_88 : cf_cv "CellFormatter$NumberWriter" 88 k_dec_round := ⟨cf_in 805 (by decide +kernel) (by decide +kernel), cf_in 799 (by decide +kernel) (by decide +kernel), cf_in 800 (by decide +kernel) (by decide +kernel)⟩
theorem f_num_91 : cf_F "CellFormatter$NumberWriter" 91 3 3 0 (.boolean) false := ⟨RX3, TX3, 7, tyX3, rfl, inX3, tyX3_ok, nmX3, by decide, rfl, rfl, rfl, rfl, rfl, Or.inl (cf_in 285 (by decide +kernel) (by decide +kernel))⟩
theorem f_num_22 : cf_F "CellFormatter$NumberWriter" 22 3 2 2 (.object "CellFormatter$Decimal") true := ⟨RX3, TX3, 7, tyX3, rfl, inX3, tyX3_ok, nmX3, by decide, rfl, rfl, rfl, rfl, rfl, Or.inl (cf_in 284 (by decide +kernel) (by decide +kernel))⟩
theorem w_num_95 : cf_cs "CellFormatter$NumberWriter" 95 k_math_abs_I := ⟨Or.inl (cf_in 806 (by decide +kernel) (by decide +kernel)), cf_in 807 (by decide +kernel) (by decide +kernel)⟩
theorem f_num_100 : cf_F "CellFormatter$NumberWriter" 100 3 4 0 (.int) false := ⟨RX3, TX3, 7, tyX3, rfl, inX3, tyX3_ok, nmX3, by decide, rfl, rfl, rfl, rfl, rfl, Or.inl (cf_in 286 (by decide +kernel) (by decide +kernel))⟩
theorem f_num_103 : cf_F "CellFormatter$NumberWriter" 103 3 5 0 (.int) false := ⟨RX3, TX3, 7, tyX3, rfl, inX3, tyX3_ok, nmX3, by decide, rfl, rfl, rfl, rfl, rfl, Or.inl (cf_in 287 (by decide +kernel) (by decide +kernel))⟩
theorem f_num_106 : cf_F "CellFormatter$NumberWriter" 106 5 9 0 (.int) false := ⟨RX5, TX5, 15, tyX5, rfl, inX5, tyX5_ok, nmX5, by decide, rfl, rfl, rfl, rfl, rfl, Or.inr ⟨"CellFormatter", List.mem_of_getElem? (i := 175) (by decide +kernel)⟩⟩
theorem f_num_109 : cf_F "CellFormatter$NumberWriter" 109 3 6 0 (.int) false := ⟨RX3, TX3, 7, tyX3, rfl, inX3, tyX3_ok, nmX3, by decide, rfl, rfl, rfl, rfl, rfl, Or.inl (cf_in 288 (by decide +kernel) (by decide +kernel))⟩
theorem f_dec_7 : cf_F "CellFormatter$Decimal" 7 1 0 1 (.long) false := ⟨RX1, TX1, 2, tyX1, rfl, inX1, tyX1_ok, nmX1, by decide, rfl, rfl, rfl, rfl, rfl, Or.inl (cf_in 275 (by decide +kernel) (by decide +kernel))⟩
theorem f_dec_13 : cf_F "CellFormatter$Decimal" 13 1 1 0 (.int) false := ⟨RX1, TX1, 2, tyX1, rfl, inX1, tyX1_ok, nmX1, by decide, rfl, rfl, rfl, rfl, rfl, Or.inl (cf_in 276 (by decide +kernel) (by decide +kernel))⟩
theorem w_dec_17 : cf_cv "CellFormatter$Decimal" 17 k_dec_isZero := ⟨cf_in 786 (by decide +kernel) (by decide +kernel), cf_in 787 (by decide +kernel) (by decide +kernel), cf_in 788 (by decide +kernel) (by decide +kernel)⟩
theorem w_dec_35 : cf_cv "CellFormatter$Decimal" 35 k_dec_highestPower := ⟨cf_in 790 (by decide +kernel) (by decide +kernel), cf_in 791 (by decide +kernel) (by decide +kernel), cf_in 792 (by decide +kernel) (by decide +kernel)⟩
theorem w_dec_39 : cf_cs "CellFormatter$Decimal" 39 k_math_floorDiv := ⟨Or.inl (cf_in 795 (by decide +kernel) (by decide +kernel)), cf_in 796 (by decide +kernel) (by decide +kernel)⟩
theorem w_dec_45 : cf_cv "CellFormatter$Decimal" 45 k_dec_round := ⟨cf_in 798 (by decide +kernel) (by decide +kernel), cf_in 799 (by decide +kernel) (by decide +kernel), cf_in 800 (by decide +kernel) (by decide +kernel)⟩
theorem w_dec_49 : cf_cv "CellFormatter$Decimal" 49 k_dec_set := ⟨cf_in 804 (by decide +kernel) (by decide +kernel), cf_in 778 (by decide +kernel) (by decide +kernel), cf_in 779 (by decide +kernel) (by decide +kernel)⟩
theorem w_dec_21 : cf_cs "CellFormatter$Decimal" 21 k_fmt_countDigits := ⟨Or.inr ⟨"CellFormatter", List.mem_of_getElem? (i := 794) (by decide +kernel)⟩, cf_in 734 (by decide +kernel) (by decide +kernel)⟩
theorem t_dec_27 : Cond.fieldLinkNest "CellFormatter$Decimal" 27 "CellFormatter" "POWERS" "[J" "CellFormatter" ∈ lw_tbl := List.mem_of_getElem? (i := 802) (by decide +kernel)
theorem l_dec_33 : Cond.constantLong "CellFormatter$Decimal" 33 2 ∈ cf_T := cf_in 803 (by decide +kernel) (by decide +kernel)
theorem f_num_112 : cf_F "CellFormatter$NumberWriter" 112 5 5 0 (.int) false := ⟨RX5, TX5, 15, tyX5, rfl, inX5, tyX5_ok, nmX5, by decide, rfl, rfl, rfl, rfl, rfl, Or.inr ⟨"CellFormatter", List.mem_of_getElem? (i := 167) (by decide +kernel)⟩⟩
theorem f_num_115 : cf_F "CellFormatter$NumberWriter" 115 5 12 0 (.boolean) false := ⟨RX5, TX5, 15, tyX5, rfl, inX5, tyX5_ok, nmX5, by decide, rfl, rfl, rfl, rfl, rfl, Or.inr ⟨"CellFormatter", List.mem_of_getElem? (i := 181) (by decide +kernel)⟩⟩
theorem w_num_118 : cf_cv "CellFormatter$NumberWriter" 118 k_num_writeIntegerPlace := ⟨cf_in 817 (by decide +kernel) (by decide +kernel), cf_in 819 (by decide +kernel) (by decide +kernel), cf_in 35 (by decide +kernel) (by decide +kernel)⟩
theorem f_num_122 : cf_F "CellFormatter$NumberWriter" 122 5 6 0 (.int) false := ⟨RX5, TX5, 15, tyX5, rfl, inX5, tyX5_ok, nmX5, by decide, rfl, rfl, rfl, rfl, rfl, Or.inr ⟨"CellFormatter", List.mem_of_getElem? (i := 170) (by decide +kernel)⟩⟩
theorem w_num_125 : cf_cv "CellFormatter$NumberWriter" 125 k_num_writeFractionPlace := ⟨cf_in 831 (by decide +kernel) (by decide +kernel), cf_in 833 (by decide +kernel) (by decide +kernel), cf_in 37 (by decide +kernel) (by decide +kernel)⟩
theorem w_num_129 : cf_cv "CellFormatter$NumberWriter" 129 k_dec_highestPower := ⟨cf_in 821 (by decide +kernel) (by decide +kernel), cf_in 791 (by decide +kernel) (by decide +kernel), cf_in 792 (by decide +kernel) (by decide +kernel)⟩
theorem w_num_133 : cf_cv "CellFormatter$NumberWriter" 133 k_num_writeDigit := ⟨cf_in 822 (by decide +kernel) (by decide +kernel), cf_in 824 (by decide +kernel) (by decide +kernel), cf_in 36 (by decide +kernel) (by decide +kernel)⟩
theorem w_num_137 : cf_cv "CellFormatter$NumberWriter" 137 k_dec_digitOf := ⟨cf_in 826 (by decide +kernel) (by decide +kernel), cf_in 827 (by decide +kernel) (by decide +kernel), cf_in 828 (by decide +kernel) (by decide +kernel)⟩
theorem l_dec_31 : Cond.constantLong "CellFormatter$Decimal" 31 10 ∈ cf_T := cf_in 830 (by decide +kernel) (by decide +kernel)
theorem w_num_140 : cf_cv "CellFormatter$NumberWriter" 140 k_num_onlyZerosFrom := ⟨cf_in 835 (by decide +kernel) (by decide +kernel), cf_in 837 (by decide +kernel) (by decide +kernel), cf_in 38 (by decide +kernel) (by decide +kernel)⟩
theorem w_fmt_179 : cf_cv "CellFormatter" 179 k_txt_add := ⟨cf_in 847 (by decide +kernel) (by decide +kernel), cf_in 721 (by decide +kernel) (by decide +kernel), cf_in 722 (by decide +kernel) (by decide +kernel)⟩
theorem f_fmt_183 : cf_F "CellFormatter" 183 5 0 0 (.int) false := ⟨RX5, TX5, 15, tyX5, rfl, inX5, tyX5_ok, nmX5, by decide, rfl, rfl, rfl, rfl, rfl, Or.inr ⟨"CellFormatter", List.mem_of_getElem? (i := 158) (by decide +kernel)⟩⟩
theorem f_fmt_186 : cf_F "CellFormatter" 186 5 1 0 (.int) false := ⟨RX5, TX5, 15, tyX5, rfl, inX5, tyX5_ok, nmX5, by decide, rfl, rfl, rfl, rfl, rfl, Or.inr ⟨"CellFormatter", List.mem_of_getElem? (i := 162) (by decide +kernel)⟩⟩
theorem w_fmt_189 : cf_cv "CellFormatter" 189 k_tok_typeAt := ⟨cf_in 848 (by decide +kernel) (by decide +kernel), cf_in 554 (by decide +kernel) (by decide +kernel), cf_in 555 (by decide +kernel) (by decide +kernel)⟩
theorem w_fmt_192 : cf_cv "CellFormatter" 192 k_tok_valueAt := ⟨cf_in 849 (by decide +kernel) (by decide +kernel), cf_in 588 (by decide +kernel) (by decide +kernel), cf_in 589 (by decide +kernel) (by decide +kernel)⟩
theorem w_fmt_121 : cf_cv "CellFormatter" 121 k_txt_at := ⟨cf_in 854 (by decide +kernel) (by decide +kernel), cf_in 855 (by decide +kernel) (by decide +kernel), cf_in 856 (by decide +kernel) (by decide +kernel)⟩
theorem w_fmt_125 : cf_cv "CellFormatter" 125 k_cal_findDay := ⟨cf_in 866 (by decide +kernel) (by decide +kernel), cf_in 692 (by decide +kernel) (by decide +kernel), cf_in 693 (by decide +kernel) (by decide +kernel)⟩
theorem f_fmt_129 : cf_F "CellFormatter" 129 0 1 0 (.int) false := ⟨RX0, TX0, 5, tyX0, rfl, inX0, tyX0_ok, nmX0, by decide, rfl, rfl, rfl, rfl, rfl, Or.inr ⟨"CellFormatter", List.mem_of_getElem? (i := 228) (by decide +kernel)⟩⟩
theorem f_fmt_132 : cf_F "CellFormatter" 132 0 2 0 (.int) false := ⟨RX0, TX0, 5, tyX0, rfl, inX0, tyX0_ok, nmX0, by decide, rfl, rfl, rfl, rfl, rfl, Or.inr ⟨"CellFormatter", List.mem_of_getElem? (i := 231) (by decide +kernel)⟩⟩
theorem f_fmt_135 : cf_F "CellFormatter" 135 0 3 0 (.int) false := ⟨RX0, TX0, 5, tyX0, rfl, inX0, tyX0_ok, nmX0, by decide, rfl, rfl, rfl, rfl, rfl, Or.inr ⟨"CellFormatter", List.mem_of_getElem? (i := 234) (by decide +kernel)⟩⟩
theorem f_fmt_138 : cf_F "CellFormatter" 138 0 4 0 (.int) false := ⟨RX0, TX0, 5, tyX0, rfl, inX0, tyX0_ok, nmX0, by decide, rfl, rfl, rfl, rfl, rfl, Or.inr ⟨"CellFormatter", List.mem_of_getElem? (i := 237) (by decide +kernel)⟩⟩
theorem w_fmt_141 : cf_cv "CellFormatter" 141 k_cal_serialOf := ⟨cf_in 871 (by decide +kernel) (by decide +kernel), cf_in 872 (by decide +kernel) (by decide +kernel), cf_in 873 (by decide +kernel) (by decide +kernel)⟩
theorem f_mod_36 : cf_F "CellFormatterModel" 36 9 0 0 (.int) false := ⟨RX9, TX9, 21, tyX9, rfl, inX9, tyX9_ok, nmX9, by decide, rfl, rfl, rfl, rfl, rfl, Or.inl (cf_in 881 (by decide +kernel) (by decide +kernel))⟩
theorem f_mod_7 : cf_F "CellFormatterModel" 7 9 1 2 (.array .int) true := ⟨RX9, TX9, 21, tyX9, rfl, inX9, tyX9_ok, nmX9, by decide, rfl, rfl, rfl, rfl, rfl, Or.inl (cf_in 882 (by decide +kernel) (by decide +kernel))⟩
theorem f_mod_79 : cf_F "CellFormatterModel" 79 9 2 0 (.int) false := ⟨RX9, TX9, 21, tyX9, rfl, inX9, tyX9_ok, nmX9, by decide, rfl, rfl, rfl, rfl, rfl, Or.inl (cf_in 883 (by decide +kernel) (by decide +kernel))⟩
theorem f_mod_82 : cf_F "CellFormatterModel" 82 9 4 0 (.int) false := ⟨RX9, TX9, 21, tyX9, rfl, inX9, tyX9_ok, nmX9, by decide, rfl, rfl, rfl, rfl, rfl, Or.inl (cf_in 885 (by decide +kernel) (by decide +kernel))⟩
theorem f_mod_25 : cf_F "CellFormatterModel" 25 9 8 2 (.array .int) true := ⟨RX9, TX9, 21, tyX9, rfl, inX9, tyX9_ok, nmX9, by decide, rfl, rfl, rfl, rfl, rfl, Or.inl (cf_in 889 (by decide +kernel) (by decide +kernel))⟩
theorem w_mod_85 : cf_cv "CellFormatterModel" 85 k_mod_token := ⟨cf_in 957 (by decide +kernel) (by decide +kernel), cf_in 959 (by decide +kernel) (by decide +kernel), cf_in 41 (by decide +kernel) (by decide +kernel)⟩
theorem f_mod_39 : cf_F "CellFormatterModel" 39 9 11 0 (.int) false := ⟨RX9, TX9, 21, tyX9, rfl, inX9, tyX9_ok, nmX9, by decide, rfl, rfl, rfl, rfl, rfl, Or.inl (cf_in 892 (by decide +kernel) (by decide +kernel))⟩
theorem f_mod_16 : cf_F "CellFormatterModel" 16 9 5 2 (.array .int) true := ⟨RX9, TX9, 21, tyX9, rfl, inX9, tyX9_ok, nmX9, by decide, rfl, rfl, rfl, rfl, rfl, Or.inl (cf_in 886 (by decide +kernel) (by decide +kernel))⟩
theorem f_mod_19 : cf_F "CellFormatterModel" 19 9 6 2 (.array .int) true := ⟨RX9, TX9, 21, tyX9, rfl, inX9, tyX9_ok, nmX9, by decide, rfl, rfl, rfl, rfl, rfl, Or.inl (cf_in 887 (by decide +kernel) (by decide +kernel))⟩
theorem f_mod_42 : cf_F "CellFormatterModel" 42 9 12 0 (.int) false := ⟨RX9, TX9, 21, tyX9, rfl, inX9, tyX9_ok, nmX9, by decide, rfl, rfl, rfl, rfl, rfl, Or.inl (cf_in 893 (by decide +kernel) (by decide +kernel))⟩
theorem f_mod_22 : cf_F "CellFormatterModel" 22 9 7 2 (.array .int) true := ⟨RX9, TX9, 21, tyX9, rfl, inX9, tyX9_ok, nmX9, by decide, rfl, rfl, rfl, rfl, rfl, Or.inl (cf_in 888 (by decide +kernel) (by decide +kernel))⟩
theorem f_mod_45 : cf_F "CellFormatterModel" 45 9 13 0 (.int) false := ⟨RX9, TX9, 21, tyX9, rfl, inX9, tyX9_ok, nmX9, by decide, rfl, rfl, rfl, rfl, rfl, Or.inl (cf_in 894 (by decide +kernel) (by decide +kernel))⟩
theorem f_mod_48 : cf_F "CellFormatterModel" 48 9 10 0 (.int) false := ⟨RX9, TX9, 21, tyX9, rfl, inX9, tyX9_ok, nmX9, by decide, rfl, rfl, rfl, rfl, rfl, Or.inl (cf_in 891 (by decide +kernel) (by decide +kernel))⟩
theorem w_mod_88 : cf_cv "CellFormatterModel" 88 k_mod_wellMade := ⟨cf_in 991 (by decide +kernel) (by decide +kernel), cf_in 993 (by decide +kernel) (by decide +kernel), cf_in 48 (by decide +kernel) (by decide +kernel)⟩
theorem f_mod_13 : cf_F "CellFormatterModel" 13 9 3 2 (.array .int) true := ⟨RX9, TX9, 21, tyX9, rfl, inX9, tyX9_ok, nmX9, by decide, rfl, rfl, rfl, rfl, rfl, Or.inl (cf_in 884 (by decide +kernel) (by decide +kernel))⟩
theorem w_mod_51 : cf_cv "CellFormatterModel" 51 k_mod_at := ⟨cf_in 961 (by decide +kernel) (by decide +kernel), cf_in 963 (by decide +kernel) (by decide +kernel), cf_in 42 (by decide +kernel) (by decide +kernel)⟩
theorem w_mod_66 : cf_cv "CellFormatterModel" 66 k_mod_quoted := ⟨cf_in 965 (by decide +kernel) (by decide +kernel), cf_in 967 (by decide +kernel) (by decide +kernel), cf_in 43 (by decide +kernel) (by decide +kernel)⟩
theorem w_mod_55 : cf_cv "CellFormatterModel" 55 k_mod_meet := ⟨cf_in 969 (by decide +kernel) (by decide +kernel), cf_in 971 (by decide +kernel) (by decide +kernel), cf_in 44 (by decide +kernel) (by decide +kernel)⟩
theorem w_mod_70 : cf_cs "CellFormatterModel" 70 k_mod_bare := ⟨Or.inl (cf_in 973 (by decide +kernel) (by decide +kernel)), cf_in 974 (by decide +kernel) (by decide +kernel)⟩
theorem w_mod_73 : cf_cv "CellFormatterModel" 73 k_mod_bracket := ⟨cf_in 976 (by decide +kernel) (by decide +kernel), cf_in 978 (by decide +kernel) (by decide +kernel), cf_in 45 (by decide +kernel) (by decide +kernel)⟩
theorem w_mod_76 : cf_cv "CellFormatterModel" 76 k_mod_letters := ⟨cf_in 987 (by decide +kernel) (by decide +kernel), cf_in 989 (by decide +kernel) (by decide +kernel), cf_in 47 (by decide +kernel) (by decide +kernel)⟩
theorem w_mod_59 : cf_cv "CellFormatterModel" 59 k_mod_comparison := ⟨cf_in 980 (by decide +kernel) (by decide +kernel), cf_in 982 (by decide +kernel) (by decide +kernel), cf_in 46 (by decide +kernel) (by decide +kernel)⟩
theorem w_mod_62 : cf_cs "CellFormatterModel" 62 k_mod_digit := ⟨Or.inl (cf_in 984 (by decide +kernel) (by decide +kernel)), cf_in 985 (by decide +kernel) (by decide +kernel)⟩
theorem w_mod_91 : cf_cv "CellFormatterModel" 91 k_mod_count := ⟨cf_in 995 (by decide +kernel) (by decide +kernel), cf_in 997 (by decide +kernel) (by decide +kernel), cf_in 49 (by decide +kernel) (by decide +kernel)⟩
theorem w_mod_102 : cf_cv "CellFormatterModel" 102 k_mod_kindOf := ⟨cf_in 999 (by decide +kernel) (by decide +kernel), cf_in 1001 (by decide +kernel) (by decide +kernel), cf_in 50 (by decide +kernel) (by decide +kernel)⟩
theorem w_mod_95 : cf_cv "CellFormatterModel" 95 k_mod_find := ⟨cf_in 1003 (by decide +kernel) (by decide +kernel), cf_in 1005 (by decide +kernel) (by decide +kernel), cf_in 51 (by decide +kernel) (by decide +kernel)⟩
theorem w_mod_99 : cf_cv "CellFormatterModel" 99 k_mod_integerEnd := ⟨cf_in 1007 (by decide +kernel) (by decide +kernel), cf_in 1009 (by decide +kernel) (by decide +kernel), cf_in 52 (by decide +kernel) (by decide +kernel)⟩
theorem w_mod_105 : cf_cv "CellFormatterModel" 105 k_mod_groups := ⟨cf_in 1011 (by decide +kernel) (by decide +kernel), cf_in 1013 (by decide +kernel) (by decide +kernel), cf_in 53 (by decide +kernel) (by decide +kernel)⟩
theorem w_mod_109 : cf_cv "CellFormatterModel" 109 k_mod_scales := ⟨cf_in 1015 (by decide +kernel) (by decide +kernel), cf_in 1017 (by decide +kernel) (by decide +kernel), cf_in 54 (by decide +kernel) (by decide +kernel)⟩
theorem f_mod_112 : cf_F "CellFormatterModel" 112 9 9 0 (.boolean) false := ⟨RX9, TX9, 21, tyX9, rfl, inX9, tyX9_ok, nmX9, by decide, rfl, rfl, rfl, rfl, rfl, Or.inl (cf_in 890 (by decide +kernel) (by decide +kernel))⟩
theorem w_mod_197 : cf_cv "CellFormatterModel" 197 k_mod_firstSerial := ⟨cf_in 1035 (by decide +kernel) (by decide +kernel), cf_in 1037 (by decide +kernel) (by decide +kernel), cf_in 55 (by decide +kernel) (by decide +kernel)⟩
theorem w_mod_206 : cf_cv "CellFormatterModel" 206 k_mod_lastSerial := ⟨cf_in 1039 (by decide +kernel) (by decide +kernel), cf_in 1041 (by decide +kernel) (by decide +kernel), cf_in 56 (by decide +kernel) (by decide +kernel)⟩
theorem w_mod_200 : cf_cv "CellFormatterModel" 200 k_mod_firstYear := ⟨cf_in 1043 (by decide +kernel) (by decide +kernel), cf_in 1045 (by decide +kernel) (by decide +kernel), cf_in 57 (by decide +kernel) (by decide +kernel)⟩
theorem w_mod_203 : cf_cv "CellFormatterModel" 203 k_mod_daysOfYear := ⟨cf_in 1047 (by decide +kernel) (by decide +kernel), cf_in 1049 (by decide +kernel) (by decide +kernel), cf_in 58 (by decide +kernel) (by decide +kernel)⟩
theorem w_mod_194 : cf_cv "CellFormatterModel" 194 k_mod_daysOf := ⟨cf_in 1051 (by decide +kernel) (by decide +kernel), cf_in 1053 (by decide +kernel) (by decide +kernel), cf_in 59 (by decide +kernel) (by decide +kernel)⟩
theorem w_mod_191 : cf_cs "CellFormatterModel" 191 k_mod_leap := ⟨Or.inl (cf_in 1055 (by decide +kernel) (by decide +kernel)), cf_in 1056 (by decide +kernel) (by decide +kernel)⟩
theorem f_mod_129 : cf_F "CellFormatterModel" 129 9 15 0 (.int) false := ⟨RX9, TX9, 21, tyX9, rfl, inX9, tyX9_ok, nmX9, by decide, rfl, rfl, rfl, rfl, rfl, Or.inl (cf_in 896 (by decide +kernel) (by decide +kernel))⟩
theorem f_mod_28 : cf_F "CellFormatterModel" 28 9 14 0 (.int) false := ⟨RX9, TX9, 21, tyX9, rfl, inX9, tyX9_ok, nmX9, by decide, rfl, rfl, rfl, rfl, rfl, Or.inl (cf_in 895 (by decide +kernel) (by decide +kernel))⟩
theorem l_mod_243 : Cond.constantLong "CellFormatterModel" 243 (-1000000000000000) ∈ cf_T := cf_in 1066 (by decide +kernel) (by decide +kernel)
theorem l_mod_245 : Cond.constantLong "CellFormatterModel" 245 1000000000000000 ∈ cf_T := cf_in 1067 (by decide +kernel) (by decide +kernel)
theorem w_mod_247 : cf_cv "CellFormatterModel" 247 k_mod_sectionFor := ⟨cf_in 1068 (by decide +kernel) (by decide +kernel), cf_in 1070 (by decide +kernel) (by decide +kernel), cf_in 60 (by decide +kernel) (by decide +kernel)⟩
theorem w_mod_121 : cf_cv "CellFormatterModel" 121 k_mod_anyCondition := ⟨cf_in 1072 (by decide +kernel) (by decide +kernel), cf_in 1074 (by decide +kernel) (by decide +kernel), cf_in 61 (by decide +kernel) (by decide +kernel)⟩
theorem w_mod_250 : cf_cv "CellFormatterModel" 250 k_mod_moment := ⟨cf_in 1085 (by decide +kernel) (by decide +kernel), cf_in 1087 (by decide +kernel) (by decide +kernel), cf_in 64 (by decide +kernel) (by decide +kernel)⟩
theorem w_mod_132 : cf_cv "CellFormatterModel" 132 k_mod_put := ⟨cf_in 1108 (by decide +kernel) (by decide +kernel), cf_in 1110 (by decide +kernel) (by decide +kernel), cf_in 69 (by decide +kernel) (by decide +kernel)⟩
theorem w_mod_253 : cf_cv "CellFormatterModel" 253 k_mod_plain := ⟨cf_in 1137 (by decide +kernel) (by decide +kernel), cf_in 1139 (by decide +kernel) (by decide +kernel), cf_in 75 (by decide +kernel) (by decide +kernel)⟩
theorem w_mod_256 : cf_cv "CellFormatterModel" 256 k_mod_reckon := ⟨cf_in 1141 (by decide +kernel) (by decide +kernel), cf_in 1143 (by decide +kernel) (by decide +kernel), cf_in 76 (by decide +kernel) (by decide +kernel)⟩
theorem f_mod_148 : cf_F "CellFormatterModel" 148 9 17 1 (.long) false := ⟨RX9, TX9, 21, tyX9, rfl, inX9, tyX9_ok, nmX9, by decide, rfl, rfl, rfl, rfl, rfl, Or.inl (cf_in 898 (by decide +kernel) (by decide +kernel))⟩
theorem w_mod_260 : cf_cv "CellFormatterModel" 260 k_mod_number := ⟨cf_in 1157 (by decide +kernel) (by decide +kernel), cf_in 1159 (by decide +kernel) (by decide +kernel), cf_in 79 (by decide +kernel) (by decide +kernel)⟩
theorem w_mod_118 : cf_cv "CellFormatterModel" 118 k_mod_conditional := ⟨cf_in 1076 (by decide +kernel) (by decide +kernel), cf_in 1078 (by decide +kernel) (by decide +kernel), cf_in 62 (by decide +kernel) (by decide +kernel)⟩
theorem w_mod_125 : cf_cv "CellFormatterModel" 125 k_mod_holds := ⟨cf_in 1080 (by decide +kernel) (by decide +kernel), cf_in 1082 (by decide +kernel) (by decide +kernel), cf_in 63 (by decide +kernel) (by decide +kernel)⟩
theorem l_mod_116 : Cond.constantLong "CellFormatterModel" 116 1000000 ∈ cf_T := cf_in 1084 (by decide +kernel) (by decide +kernel)
theorem l_mod_224 : Cond.constantLong "CellFormatterModel" 224 86400 ∈ cf_T := cf_in 1089 (by decide +kernel) (by decide +kernel)
theorem l_mod_230 : Cond.constantLong "CellFormatterModel" 230 500000 ∈ cf_T := cf_in 1090 (by decide +kernel) (by decide +kernel)
theorem l_mod_232 : Cond.constant "CellFormatterModel" 232 86400 ∈ cf_T := cf_in 1091 (by decide +kernel) (by decide +kernel)
theorem w_mod_233 : cf_cv "CellFormatterModel" 233 k_mod_daily := ⟨cf_in 1092 (by decide +kernel) (by decide +kernel), cf_in 1094 (by decide +kernel) (by decide +kernel), cf_in 65 (by decide +kernel) (by decide +kernel)⟩
theorem w_mod_139 : cf_cv "CellFormatterModel" 139 k_mod_putLiteral := ⟨cf_in 1104 (by decide +kernel) (by decide +kernel), cf_in 1106 (by decide +kernel) (by decide +kernel), cf_in 68 (by decide +kernel) (by decide +kernel)⟩
theorem w_mod_209 : cf_cv "CellFormatterModel" 209 k_mod_field := ⟨cf_in 1100 (by decide +kernel) (by decide +kernel), cf_in 1102 (by decide +kernel) (by decide +kernel), cf_in 67 (by decide +kernel) (by decide +kernel)⟩
theorem w_mod_236 : cf_cv "CellFormatterModel" 236 k_mod_dailyField := ⟨cf_in 1112 (by decide +kernel) (by decide +kernel), cf_in 1114 (by decide +kernel) (by decide +kernel), cf_in 70 (by decide +kernel) (by decide +kernel)⟩
theorem w_mod_239 : cf_cv "CellFormatterModel" 239 k_mod_timeField := ⟨cf_in 1131 (by decide +kernel) (by decide +kernel), cf_in 1133 (by decide +kernel) (by decide +kernel), cf_in 74 (by decide +kernel) (by decide +kernel)⟩
theorem w_mod_212 : cf_cv "CellFormatterModel" 212 k_mod_minute := ⟨cf_in 1096 (by decide +kernel) (by decide +kernel), cf_in 1098 (by decide +kernel) (by decide +kernel), cf_in 66 (by decide +kernel) (by decide +kernel)⟩
theorem f_mod_32 : cf_F "CellFormatterModel" 32 9 16 2 (.array .char) true := ⟨RX9, TX9, 21, tyX9, rfl, inX9, tyX9_ok, nmX9, by decide, rfl, rfl, rfl, rfl, rfl, Or.inl (cf_in 897 (by decide +kernel) (by decide +kernel))⟩
theorem w_mod_215 : cf_cv "CellFormatterModel" 215 k_mod_date := ⟨cf_in 1116 (by decide +kernel) (by decide +kernel), cf_in 1032 (by decide +kernel) (by decide +kernel), cf_in 1033 (by decide +kernel) (by decide +kernel)⟩
theorem w_mod_172 : cf_cv "CellFormatterModel" 172 k_mod_putNumber := ⟨cf_in 1117 (by decide +kernel) (by decide +kernel), cf_in 1119 (by decide +kernel) (by decide +kernel), cf_in 71 (by decide +kernel) (by decide +kernel)⟩
theorem w_mod_218 : cf_cv "CellFormatterModel" 218 k_mod_month := ⟨cf_in 1123 (by decide +kernel) (by decide +kernel), cf_in 1125 (by decide +kernel) (by decide +kernel), cf_in 72 (by decide +kernel) (by decide +kernel)⟩
theorem w_mod_221 : cf_cv "CellFormatterModel" 221 k_mod_weekday := ⟨cf_in 1127 (by decide +kernel) (by decide +kernel), cf_in 1129 (by decide +kernel) (by decide +kernel), cf_in 73 (by decide +kernel) (by decide +kernel)⟩
theorem l_mod_135 : Cond.constantLong "CellFormatterModel" 135 10 ∈ cf_T := cf_in 1121 (by decide +kernel) (by decide +kernel)
theorem l_mod_137 : Cond.constantLong "CellFormatterModel" 137 48 ∈ cf_T := cf_in 1122 (by decide +kernel) (by decide +kernel)
theorem l_mod_226 : Cond.constantLong "CellFormatterModel" 226 3600 ∈ cf_T := cf_in 1135 (by decide +kernel) (by decide +kernel)
theorem l_mod_228 : Cond.constantLong "CellFormatterModel" 228 60 ∈ cf_T := cf_in 1136 (by decide +kernel) (by decide +kernel)
theorem f_mod_158 : cf_F "CellFormatterModel" 158 9 20 0 (.int) false := ⟨RX9, TX9, 21, tyX9, rfl, inX9, tyX9_ok, nmX9, by decide, rfl, rfl, rfl, rfl, rfl, Or.inl (cf_in 901 (by decide +kernel) (by decide +kernel))⟩
theorem w_mod_161 : cf_cv "CellFormatterModel" 161 k_mod_round := ⟨cf_in 1145 (by decide +kernel) (by decide +kernel), cf_in 1147 (by decide +kernel) (by decide +kernel), cf_in 77 (by decide +kernel) (by decide +kernel)⟩
theorem w_mod_154 : cf_cs "CellFormatterModel" 154 k_mod_lengthOf := ⟨Or.inl (cf_in 1150 (by decide +kernel) (by decide +kernel)), cf_in 1151 (by decide +kernel) (by decide +kernel)⟩
theorem w_mod_165 : cf_cv "CellFormatterModel" 165 k_mod_top := ⟨cf_in 1153 (by decide +kernel) (by decide +kernel), cf_in 1155 (by decide +kernel) (by decide +kernel), cf_in 78 (by decide +kernel) (by decide +kernel)⟩
theorem f_mod_142 : cf_F "CellFormatterModel" 142 9 19 0 (.int) false := ⟨RX9, TX9, 21, tyX9, rfl, inX9, tyX9_ok, nmX9, by decide, rfl, rfl, rfl, rfl, rfl, Or.inl (cf_in 900 (by decide +kernel) (by decide +kernel))⟩
theorem f_mod_145 : cf_F "CellFormatterModel" 145 9 18 0 (.int) false := ⟨RX9, TX9, 21, tyX9, rfl, inX9, tyX9_ok, nmX9, by decide, rfl, rfl, rfl, rfl, rfl, Or.inl (cf_in 899 (by decide +kernel) (by decide +kernel))⟩
theorem l_mod_152 : Cond.constantLong "CellFormatterModel" 152 2 ∈ cf_T := cf_in 1149 (by decide +kernel) (by decide +kernel)
theorem w_mod_188 : cf_cv "CellFormatterModel" 188 k_mod_place := ⟨cf_in 1161 (by decide +kernel) (by decide +kernel), cf_in 1163 (by decide +kernel) (by decide +kernel), cf_in 80 (by decide +kernel) (by decide +kernel)⟩
theorem w_mod_176 : cf_cv "CellFormatterModel" 176 k_mod_integerPlace := ⟨cf_in 1165 (by decide +kernel) (by decide +kernel), cf_in 1167 (by decide +kernel) (by decide +kernel), cf_in 81 (by decide +kernel) (by decide +kernel)⟩
theorem w_mod_180 : cf_cv "CellFormatterModel" 180 k_mod_fractionPlace := ⟨cf_in 1173 (by decide +kernel) (by decide +kernel), cf_in 1175 (by decide +kernel) (by decide +kernel), cf_in 83 (by decide +kernel) (by decide +kernel)⟩
theorem w_mod_184 : cf_cv "CellFormatterModel" 184 k_mod_exponentPlace := ⟨cf_in 1177 (by decide +kernel) (by decide +kernel), cf_in 1179 (by decide +kernel) (by decide +kernel), cf_in 84 (by decide +kernel) (by decide +kernel)⟩
theorem w_mod_169 : cf_cv "CellFormatterModel" 169 k_mod_digitOf := ⟨cf_in 1169 (by decide +kernel) (by decide +kernel), cf_in 1171 (by decide +kernel) (by decide +kernel), cf_in 82 (by decide +kernel) (by decide +kernel)⟩
theorem q_fmt_compile_82 : cf_qv k_fmt_compile 82 k_scn_scan 2 := ⟨w_fmt_82, y_scn_scan, by decide, by decide⟩
theorem q_fmt_compile_89 : cf_qv k_fmt_compile 89 k_tok_count 3 := ⟨w_fmt_89, y_tok_count, by decide, by decide⟩
theorem q_fmt_compile_93 : cf_qv k_fmt_compile 93 k_fmt_readParts 1 := ⟨w_fmt_93, y_fmt_readParts, by decide, by decide⟩
theorem q_scn_scan_23 : cf_qs k_scn_scan 23 k_math_min 2 := ⟨w_scn_23, y_math_min, by decide, by decide⟩
theorem q_scn_scan_29 : cf_qv k_scn_scan 29 k_tok_clear 0 := ⟨w_scn_29, y_tok_clear, by decide, by decide⟩
theorem q_scn_scan_34 : cf_qv k_scn_scan 34 k_scn_scanToken 1 := ⟨w_scn_34, y_scn_scanToken, by decide, by decide⟩
theorem q_scn_scanToken_38 : cf_qv k_scn_scanToken 38 k_scn_at 1 := ⟨w_scn_38, y_scn_at, by decide, by decide⟩
theorem q_scn_scanToken_42 : cf_qv k_scn_scanToken 42 k_scn_scanQuoted 1 := ⟨w_scn_42, y_scn_scanQuoted, by decide, by decide⟩
theorem q_scn_scanToken_45 : cf_qv k_scn_scanToken 45 k_scn_scanEscaped 1 := ⟨w_scn_45, y_scn_scanEscaped, by decide, by decide⟩
theorem q_scn_scanToken_48 : cf_qv k_scn_scanToken 48 k_scn_scanBracket 1 := ⟨w_scn_48, y_scn_scanBracket, by decide, by decide⟩
theorem q_scn_scanToken_51 : cf_qv k_scn_scanToken 51 k_scn_scanExponent 1 := ⟨w_scn_51, y_scn_scanExponent, by decide, by decide⟩
theorem q_scn_scanToken_54 : cf_qv k_scn_scanToken 54 k_scn_scanMeridiem 1 := ⟨w_scn_54, y_scn_scanMeridiem, by decide, by decide⟩
theorem q_scn_scanToken_59 : cf_qv k_scn_scanToken 59 k_str_indexOf_I 1 := ⟨w_scn_59, y_str_indexOf_I, by decide, by decide⟩
theorem q_scn_scanToken_64 : cf_qv k_scn_scanToken 64 k_scn_scanField 1 := ⟨w_scn_64, y_scn_scanField, by decide, by decide⟩
theorem q_scn_scanToken_67 : cf_qv k_scn_scanToken 67 k_scn_scanSingle 1 := ⟨w_scn_67, y_scn_scanSingle, by decide, by decide⟩
theorem q_scn_scanQuoted_38 : cf_qv k_scn_scanQuoted 38 k_scn_at 1 := ⟨w_scn_38, y_scn_at, by decide, by decide⟩
theorem q_scn_scanQuoted_71 : cf_qv k_scn_scanQuoted 71 k_tok_add 3 := ⟨w_scn_71, y_tok_add, by decide, by decide⟩
theorem q_scn_scanEscaped_38 : cf_qv k_scn_scanEscaped 38 k_scn_at 1 := ⟨w_scn_38, y_scn_at, by decide, by decide⟩
theorem q_scn_scanEscaped_71 : cf_qv k_scn_scanEscaped 71 k_tok_add 3 := ⟨w_scn_71, y_tok_add, by decide, by decide⟩
theorem q_scn_scanBracket_38 : cf_qv k_scn_scanBracket 38 k_scn_at 1 := ⟨w_scn_38, y_scn_at, by decide, by decide⟩
theorem q_scn_scanBracket_59 : cf_qv k_scn_scanBracket 59 k_str_indexOf_I 1 := ⟨w_scn_59, y_str_indexOf_I, by decide, by decide⟩
theorem q_scn_scanBracket_71 : cf_qv k_scn_scanBracket 71 k_tok_add 3 := ⟨w_scn_71, y_tok_add, by decide, by decide⟩
theorem q_scn_scanBracket_77 : cf_qv k_scn_scanBracket 77 k_scn_scanCondition 1 := ⟨w_scn_77, y_scn_scanCondition, by decide, by decide⟩
theorem q_str_indexOf_I_633 : cf_qv k_str_indexOf_I 633 k_str_indexOf_II 2 := ⟨w_str_633, y_str_indexOf_II, by decide, by decide⟩
theorem q_str_indexOf_II_492 : cf_qv k_str_indexOf_II 492 k_str_isLatin1 0 := ⟨w_str_492, y_str_isLatin1, by decide, by decide⟩
theorem q_str_indexOf_II_505 : cf_qv k_str_indexOf_II 505 k_str_length 0 := ⟨w_str_505, y_str_length, by decide, by decide⟩
theorem q_str_indexOf_II_637 : cf_qs k_str_indexOf_II 637 k_sla_indexOf 4 := ⟨w_str_637, y_sla_indexOf, by decide, by decide⟩
theorem q_str_length_335 : cf_qv k_str_length 335 k_str_coder 0 := ⟨w_str_335, y_str_coder, by decide, by decide⟩
theorem q_sla_indexOf_88 : cf_qs k_sla_indexOf 88 k_sla_canEncode 1 := ⟨w_sla_88, y_sla_canEncode, by decide, by decide⟩
theorem q_sla_indexOf_92 : cf_qs k_sla_indexOf 92 k_math_max 2 := ⟨w_sla_92, y_math_max, by decide, by decide⟩
theorem q_sla_indexOf_38 : cf_qs k_sla_indexOf 38 k_math_min 2 := ⟨w_sla_38, y_math_min, by decide, by decide⟩
theorem q_sla_indexOf_95 : cf_qs k_sla_indexOf 95 k_sla_indexOfChar 4 := ⟨w_sla_95, y_sla_indexOfChar, by decide, by decide⟩
theorem q_str_checkBoundsBeginEnd_1062 : cf_qs k_str_checkBoundsBeginEnd 1062 k_pre_checkFromToIndex 4 := ⟨w_str_1062, y_pre_checkFromToIndex, by decide, by decide⟩
theorem q_scn_scanCondition_80 : cf_qv k_scn_scanCondition 80 k_scn_testAt 1 := ⟨w_scn_80, y_scn_testAt, by decide, by decide⟩
theorem q_scn_scanCondition_38 : cf_qv k_scn_scanCondition 38 k_scn_at 1 := ⟨w_scn_38, y_scn_at, by decide, by decide⟩
theorem q_scn_scanCondition_83 : cf_qv k_scn_scanCondition 83 k_scn_isDigit 1 := ⟨w_scn_83, y_scn_isDigit, by decide, by decide⟩
theorem q_scn_scanCondition_71 : cf_qv k_scn_scanCondition 71 k_tok_add 3 := ⟨w_scn_71, y_tok_add, by decide, by decide⟩
theorem q_scn_testAt_38 : cf_qv k_scn_testAt 38 k_scn_at 1 := ⟨w_scn_38, y_scn_at, by decide, by decide⟩
theorem q_scn_scanExponent_38 : cf_qv k_scn_scanExponent 38 k_scn_at 1 := ⟨w_scn_38, y_scn_at, by decide, by decide⟩
theorem q_scn_scanExponent_71 : cf_qv k_scn_scanExponent 71 k_tok_add 3 := ⟨w_scn_71, y_tok_add, by decide, by decide⟩
theorem q_scn_scanMeridiem_89 : cf_qv k_scn_scanMeridiem 89 k_str_length 0 := ⟨w_scn_89, y_str_length, by decide, by decide⟩
theorem q_scn_scanMeridiem_38 : cf_qv k_scn_scanMeridiem 38 k_scn_at 1 := ⟨w_scn_38, y_scn_at, by decide, by decide⟩
theorem q_scn_scanMeridiem_92 : cf_qv k_scn_scanMeridiem 92 k_str_charAt 1 := ⟨w_scn_92, y_str_charAt, by decide, by decide⟩
theorem q_scn_scanMeridiem_71 : cf_qv k_scn_scanMeridiem 71 k_tok_add 3 := ⟨w_scn_71, y_tok_add, by decide, by decide⟩
theorem q_str_charAt_492 : cf_qv k_str_charAt 492 k_str_isLatin1 0 := ⟨w_str_492, y_str_isLatin1, by decide, by decide⟩
theorem q_str_charAt_495 : cf_qs k_str_charAt 495 k_sla_charAt 2 := ⟨w_str_495, y_sla_charAt, by decide, by decide⟩
theorem q_sla_charAt_9 : cf_qs k_sla_charAt 9 k_str_checkIndex 2 := ⟨w_sla_9, y_str_checkIndex, by decide, by decide⟩
theorem q_str_checkIndex_1059 : cf_qs k_str_checkIndex 1059 k_pre_checkIndex 3 := ⟨w_str_1059, y_pre_checkIndex, by decide, by decide⟩
theorem q_scn_scanField_38 : cf_qv k_scn_scanField 38 k_scn_at 1 := ⟨w_scn_38, y_scn_at, by decide, by decide⟩
theorem q_scn_scanField_95 : cf_qv k_scn_scanField 95 k_scn_isFieldLength 2 := ⟨w_scn_95, y_scn_isFieldLength, by decide, by decide⟩
theorem q_scn_scanField_71 : cf_qv k_scn_scanField 71 k_tok_add 3 := ⟨w_scn_71, y_tok_add, by decide, by decide⟩
theorem q_scn_scanSingle_59 : cf_qv k_scn_scanSingle 59 k_str_indexOf_I 1 := ⟨w_scn_59, y_str_indexOf_I, by decide, by decide⟩
theorem q_scn_scanSingle_71 : cf_qv k_scn_scanSingle 71 k_tok_add 3 := ⟨w_scn_71, y_tok_add, by decide, by decide⟩
theorem q_tok_count_25 : cf_qv k_tok_count 25 k_tok_typeAt 1 := ⟨w_tok_25, y_tok_typeAt, by decide, by decide⟩
theorem q_fmt_readParts_144 : cf_qv k_fmt_readParts 144 k_tok_find 3 := ⟨w_fmt_144, y_tok_find, by decide, by decide⟩
theorem q_fmt_readParts_147 : cf_qv k_fmt_readParts 147 k_sec_read 3 := ⟨w_fmt_147, y_sec_read, by decide, by decide⟩
theorem q_fmt_readParts_151 : cf_qv k_fmt_readParts 151 k_sec_hasCondition 0 := ⟨w_fmt_151, y_sec_hasCondition, by decide, by decide⟩
theorem q_tok_find_25 : cf_qv k_tok_find 25 k_tok_typeAt 1 := ⟨w_tok_25, y_tok_typeAt, by decide, by decide⟩
theorem q_sec_read_21 : cf_qv k_sec_read 21 k_tok_count 3 := ⟨w_sec_21, y_tok_count, by decide, by decide⟩
theorem q_sec_read_27 : cf_qv k_sec_read 27 k_sec_countFields 1 := ⟨w_sec_27, y_sec_countFields, by decide, by decide⟩
theorem q_sec_read_31 : cf_qv k_sec_read 31 k_sec_readCondition 1 := ⟨w_sec_31, y_sec_readCondition, by decide, by decide⟩
theorem q_sec_read_35 : cf_qv k_sec_read 35 k_sec_readNumber 1 := ⟨w_sec_35, y_sec_readNumber, by decide, by decide⟩
theorem q_sec_read_38 : cf_qv k_sec_read 38 k_sec_readFields 1 := ⟨w_sec_38, y_sec_readFields, by decide, by decide⟩
theorem q_sec_read_42 : cf_qv k_sec_read 42 k_sec_hasNumberMarks 1 := ⟨w_sec_42, y_sec_hasNumberMarks, by decide, by decide⟩
theorem q_sec_countFields_59 : cf_qv k_sec_countFields 59 k_tok_isField 1 := ⟨w_sec_59, y_tok_isField, by decide, by decide⟩
theorem q_tok_isField_25 : cf_qv k_tok_isField 25 k_tok_typeAt 1 := ⟨w_tok_25, y_tok_typeAt, by decide, by decide⟩
theorem q_sec_readCondition_21 : cf_qv k_sec_readCondition 21 k_tok_count 3 := ⟨w_sec_21, y_tok_count, by decide, by decide⟩
theorem q_sec_readCondition_63 : cf_qv k_sec_readCondition 63 k_tok_typeAt 1 := ⟨w_sec_63, y_tok_typeAt, by decide, by decide⟩
theorem q_sec_readCondition_67 : cf_qv k_sec_readCondition 67 k_tok_detailAt 1 := ⟨w_sec_67, y_tok_detailAt, by decide, by decide⟩
theorem q_sec_readCondition_70 : cf_qv k_sec_readCondition 70 k_tok_valueAt 1 := ⟨w_sec_70, y_tok_valueAt, by decide, by decide⟩
theorem q_sec_readNumber_21 : cf_qv k_sec_readNumber 21 k_tok_count 3 := ⟨w_sec_21, y_tok_count, by decide, by decide⟩
theorem q_sec_readNumber_78 : cf_qv k_sec_readNumber 78 k_tok_find 3 := ⟨w_sec_78, y_tok_find, by decide, by decide⟩
theorem q_sec_readNumber_93 : cf_qv k_sec_readNumber 93 k_sec_hasExponent 0 := ⟨w_sec_93, y_sec_hasExponent, by decide, by decide⟩
theorem q_sec_readNumber_96 : cf_qv k_sec_readNumber 96 k_sec_readCommas 1 := ⟨w_sec_96, y_sec_readCommas, by decide, by decide⟩
theorem q_sec_readCommas_78 : cf_qv k_sec_readCommas 78 k_tok_find 3 := ⟨w_sec_78, y_tok_find, by decide, by decide⟩
theorem q_sec_readCommas_106 : cf_qv k_sec_readCommas 106 k_tok_findLast 3 := ⟨w_sec_106, y_tok_findLast, by decide, by decide⟩
theorem q_sec_readCommas_63 : cf_qv k_sec_readCommas 63 k_tok_typeAt 1 := ⟨w_sec_63, y_tok_typeAt, by decide, by decide⟩
theorem q_sec_readCommas_93 : cf_qv k_sec_readCommas 93 k_sec_hasExponent 0 := ⟨w_sec_93, y_sec_hasExponent, by decide, by decide⟩
theorem q_tok_findLast_25 : cf_qv k_tok_findLast 25 k_tok_typeAt 1 := ⟨w_tok_25, y_tok_typeAt, by decide, by decide⟩
theorem q_sec_readFields_21 : cf_qv k_sec_readFields 21 k_tok_count 3 := ⟨w_sec_21, y_tok_count, by decide, by decide⟩
theorem q_sec_readFields_63 : cf_qv k_sec_readFields 63 k_tok_typeAt 1 := ⟨w_sec_63, y_tok_typeAt, by decide, by decide⟩
theorem q_sec_readFields_70 : cf_qv k_sec_readFields 70 k_tok_valueAt 1 := ⟨w_sec_70, y_tok_valueAt, by decide, by decide⟩
theorem q_sec_readFields_115 : cf_qv k_sec_readFields 115 k_sec_letterBefore 2 := ⟨w_sec_115, y_sec_letterBefore, by decide, by decide⟩
theorem q_sec_readFields_119 : cf_qv k_sec_readFields 119 k_sec_letterBehind 2 := ⟨w_sec_119, y_sec_letterBehind, by decide, by decide⟩
theorem q_sec_readFields_67 : cf_qv k_sec_readFields 67 k_tok_detailAt 1 := ⟨w_sec_67, y_tok_detailAt, by decide, by decide⟩
theorem q_sec_readFields_122 : cf_qv k_sec_readFields 122 k_tok_setValue 2 := ⟨w_sec_122, y_tok_setValue, by decide, by decide⟩
theorem q_sec_letterBefore_59 : cf_qv k_sec_letterBefore 59 k_tok_isField 1 := ⟨w_sec_59, y_tok_isField, by decide, by decide⟩
theorem q_sec_letterBefore_70 : cf_qv k_sec_letterBefore 70 k_tok_valueAt 1 := ⟨w_sec_70, y_tok_valueAt, by decide, by decide⟩
theorem q_sec_letterBehind_59 : cf_qv k_sec_letterBehind 59 k_tok_isField 1 := ⟨w_sec_59, y_tok_isField, by decide, by decide⟩
theorem q_sec_letterBehind_70 : cf_qv k_sec_letterBehind 70 k_tok_valueAt 1 := ⟨w_sec_70, y_tok_valueAt, by decide, by decide⟩
theorem q_sec_hasNumberMarks_21 : cf_qv k_sec_hasNumberMarks 21 k_tok_count 3 := ⟨w_sec_21, y_tok_count, by decide, by decide⟩
theorem q_fmt_show_103 : cf_qv k_fmt_show 103 k_txt_clear 0 := ⟨w_fmt_103, y_txt_clear, by decide, by decide⟩
theorem q_fmt_show_110 : cf_qv k_fmt_show 110 k_fmt_choosePart 1 := ⟨w_fmt_110, y_fmt_choosePart, by decide, by decide⟩
theorem q_fmt_show_114 : cf_qv k_fmt_show 114 k_fmt_writeBy 2 := ⟨w_fmt_114, y_fmt_writeBy, by decide, by decide⟩
theorem q_fmt_choosePart_155 : cf_qv k_fmt_choosePart 155 k_fmt_chooseByCondition 1 := ⟨w_fmt_155, y_fmt_chooseByCondition, by decide, by decide⟩
theorem q_fmt_chooseByCondition_158 : cf_qv k_fmt_chooseByCondition 158 k_sec_admits 1 := ⟨w_fmt_158, y_sec_admits, by decide, by decide⟩
theorem q_sec_admits_48 : cf_qv k_sec_admits 48 k_sec_hasCondition 0 := ⟨w_sec_48, y_sec_hasCondition, by decide, by decide⟩
theorem q_fmt_writeBy_162 : cf_qv k_fmt_writeBy 162 k_mom_write 3 := ⟨w_fmt_162, y_mom_write, by decide, by decide⟩
theorem q_fmt_writeBy_166 : cf_qs k_fmt_writeBy 166 k_math_abs_J 1 := ⟨w_fmt_166, y_math_abs_J, by decide, by decide⟩
theorem q_fmt_writeBy_172 : cf_qv k_fmt_writeBy 172 k_num_write 4 := ⟨w_fmt_172, y_num_write, by decide, by decide⟩
theorem q_fmt_writeBy_175 : cf_qv k_fmt_writeBy 175 k_fmt_writePlain 2 := ⟨w_fmt_175, y_fmt_writePlain, by decide, by decide⟩
theorem q_mom_write_19 : cf_qv k_mom_write 19 k_mom_roundToSeconds 1 := ⟨w_mom_19, y_mom_roundToSeconds, by decide, by decide⟩
theorem q_mom_write_27 : cf_qv k_mom_write 27 k_cal_lastSerial 0 := ⟨w_mom_27, y_cal_lastSerial, by decide, by decide⟩
theorem q_mom_write_39 : cf_qv k_mom_write 39 k_cal_findDay 1 := ⟨w_mom_39, y_cal_findDay, by decide, by decide⟩
theorem q_mom_write_53 : cf_qv k_mom_write 53 k_mom_writeToken 3 := ⟨w_mom_53, y_mom_writeToken, by decide, by decide⟩
theorem q_cal_findDay_17 : cf_qv k_cal_findDay 17 k_cal_lastSerial 0 := ⟨w_cal_17, y_cal_lastSerial, by decide, by decide⟩
theorem q_cal_findDay_25 : cf_qs k_cal_findDay 25 k_cal_daysBeforeYear 1 := ⟨w_cal_25, y_cal_daysBeforeYear, by decide, by decide⟩
theorem q_cal_findDay_29 : cf_qv k_cal_findDay 29 k_cal_setDate 1 := ⟨w_cal_29, y_cal_setDate, by decide, by decide⟩
theorem q_cal_setDate_46 : cf_qs k_cal_setDate 46 k_cal_yearOf 1 := ⟨w_cal_46, y_cal_yearOf, by decide, by decide⟩
theorem q_cal_setDate_25 : cf_qs k_cal_setDate 25 k_cal_daysBeforeYear 1 := ⟨w_cal_25, y_cal_daysBeforeYear, by decide, by decide⟩
theorem q_cal_setDate_42 : cf_qs k_cal_setDate 42 k_cal_monthLength 2 := ⟨w_cal_42, y_cal_monthLength, by decide, by decide⟩
theorem q_cal_yearOf_25 : cf_qs k_cal_yearOf 25 k_cal_daysBeforeYear 1 := ⟨w_cal_25, y_cal_daysBeforeYear, by decide, by decide⟩
theorem q_cal_monthLength_49 : cf_qs k_cal_monthLength 49 k_cal_isLeap 1 := ⟨w_cal_49, y_cal_isLeap, by decide, by decide⟩
theorem q_mom_writeToken_67 : cf_qv k_mom_writeToken 67 k_tok_typeAt 1 := ⟨w_mom_67, y_tok_typeAt, by decide, by decide⟩
theorem q_mom_writeToken_73 : cf_qv k_mom_writeToken 73 k_tok_valueAt 1 := ⟨w_mom_73, y_tok_valueAt, by decide, by decide⟩
theorem q_mom_writeToken_76 : cf_qv k_mom_writeToken 76 k_txt_add 1 := ⟨w_mom_76, y_txt_add, by decide, by decide⟩
theorem q_mom_writeToken_82 : cf_qv k_mom_writeToken 82 k_mom_writeElapsed 1 := ⟨w_mom_82, y_mom_writeElapsed, by decide, by decide⟩
theorem q_mom_writeToken_86 : cf_qv k_mom_writeToken 86 k_mom_hour 0 := ⟨w_mom_86, y_mom_hour, by decide, by decide⟩
theorem q_mom_writeToken_89 : cf_qv k_mom_writeToken 89 k_tok_detailAt 1 := ⟨w_mom_89, y_tok_detailAt, by decide, by decide⟩
theorem q_mom_writeToken_92 : cf_qv k_mom_writeToken 92 k_mom_writeField 3 := ⟨w_mom_92, y_mom_writeField, by decide, by decide⟩
theorem q_mom_writeElapsed_98 : cf_qv k_mom_writeElapsed 98 k_txt_addNumber 2 := ⟨w_mom_98, y_txt_addNumber, by decide, by decide⟩
theorem q_txt_addNumber_19 : cf_qs k_txt_addNumber 19 k_fmt_countDigits 1 := ⟨w_txt_19, y_fmt_countDigits, by decide, by decide⟩
theorem q_txt_addNumber_23 : cf_qs k_txt_addNumber 23 k_math_max 2 := ⟨w_txt_23, y_math_max, by decide, by decide⟩
theorem q_txt_addNumber_33 : cf_qs k_txt_addNumber 33 k_math_min 2 := ⟨w_txt_33, y_math_min, by decide, by decide⟩
theorem q_txt_addNumber_40 : cf_qv k_txt_addNumber 40 k_txt_add 1 := ⟨w_txt_40, y_txt_add, by decide, by decide⟩
theorem q_mom_writeField_104 : cf_qv k_mom_writeField 104 k_mom_numberOf 3 := ⟨w_mom_104, y_mom_numberOf, by decide, by decide⟩
theorem q_mom_writeField_98 : cf_qv k_mom_writeField 98 k_txt_addNumber 2 := ⟨w_mom_98, y_txt_addNumber, by decide, by decide⟩
theorem q_mom_writeField_113 : cf_qv k_mom_writeField 113 k_mom_writeName 2 := ⟨w_mom_113, y_mom_writeName, by decide, by decide⟩
theorem q_mom_numberOf_86 : cf_qv k_mom_numberOf 86 k_mom_hour 0 := ⟨w_mom_86, y_mom_hour, by decide, by decide⟩
theorem q_mom_writeName_128 : cf_qv k_mom_writeName 128 k_str_length 0 := ⟨w_mom_128, y_str_length, by decide, by decide⟩
theorem q_mom_writeName_133 : cf_qv k_mom_writeName 133 k_str_charAt 1 := ⟨w_mom_133, y_str_charAt, by decide, by decide⟩
theorem q_mom_writeName_76 : cf_qv k_mom_writeName 76 k_txt_add 1 := ⟨w_mom_76, y_txt_add, by decide, by decide⟩
theorem q_num_write_25 : cf_qv k_num_write 25 k_num_prepare 2 := ⟨w_num_25, y_num_prepare, by decide, by decide⟩
theorem q_num_write_29 : cf_qv k_num_write 29 k_dec_isZero 0 := ⟨w_num_29, y_dec_isZero, by decide, by decide⟩
theorem q_num_write_33 : cf_qv k_num_write 33 k_txt_add 1 := ⟨w_num_33, y_txt_add, by decide, by decide⟩
theorem q_num_write_48 : cf_qv k_num_write 48 k_tok_typeAt 1 := ⟨w_num_48, y_tok_typeAt, by decide, by decide⟩
theorem q_num_write_54 : cf_qv k_num_write 54 k_tok_valueAt 1 := ⟨w_num_54, y_tok_valueAt, by decide, by decide⟩
theorem q_num_write_57 : cf_qv k_num_write 57 k_num_writePlace 3 := ⟨w_num_57, y_num_writePlace, by decide, by decide⟩
theorem q_num_write_61 : cf_qv k_num_write 61 k_num_writeExponentMark 1 := ⟨w_num_61, y_num_writeExponentMark, by decide, by decide⟩
theorem q_num_prepare_71 : cf_qv k_num_prepare 71 k_dec_set 2 := ⟨w_num_71, y_dec_set, by decide, by decide⟩
theorem q_num_prepare_75 : cf_qv k_num_prepare 75 k_sec_hasExponent 0 := ⟨w_num_75, y_sec_hasExponent, by decide, by decide⟩
theorem q_num_prepare_84 : cf_qv k_num_prepare 84 k_dec_takeExponent 2 := ⟨w_num_84, y_dec_takeExponent, by decide, by decide⟩
theorem q_num_prepare_88 : cf_qv k_num_prepare 88 k_dec_round 1 := ⟨w_num_88, y_dec_round, by decide, by decide⟩
theorem q_num_prepare_95 : cf_qs k_num_prepare 95 k_math_abs_I 1 := ⟨w_num_95, y_math_abs_I, by decide, by decide⟩
theorem q_dec_takeExponent_17 : cf_qv k_dec_takeExponent 17 k_dec_isZero 0 := ⟨w_dec_17, y_dec_isZero, by decide, by decide⟩
theorem q_dec_takeExponent_35 : cf_qv k_dec_takeExponent 35 k_dec_highestPower 0 := ⟨w_dec_35, y_dec_highestPower, by decide, by decide⟩
theorem q_dec_takeExponent_39 : cf_qs k_dec_takeExponent 39 k_math_floorDiv 2 := ⟨w_dec_39, y_math_floorDiv, by decide, by decide⟩
theorem q_dec_takeExponent_45 : cf_qv k_dec_takeExponent 45 k_dec_round 1 := ⟨w_dec_45, y_dec_round, by decide, by decide⟩
theorem q_dec_takeExponent_49 : cf_qv k_dec_takeExponent 49 k_dec_set 2 := ⟨w_dec_49, y_dec_set, by decide, by decide⟩
theorem q_dec_highestPower_17 : cf_qv k_dec_highestPower 17 k_dec_isZero 0 := ⟨w_dec_17, y_dec_isZero, by decide, by decide⟩
theorem q_dec_highestPower_21 : cf_qs k_dec_highestPower 21 k_fmt_countDigits 1 := ⟨w_dec_21, y_fmt_countDigits, by decide, by decide⟩
theorem q_num_writePlace_118 : cf_qv k_num_writePlace 118 k_num_writeIntegerPlace 5 := ⟨w_num_118, y_num_writeIntegerPlace, by decide, by decide⟩
theorem q_num_writePlace_125 : cf_qv k_num_writePlace 125 k_num_writeFractionPlace 2 := ⟨w_num_125, y_num_writeFractionPlace, by decide, by decide⟩
theorem q_num_writeIntegerPlace_129 : cf_qv k_num_writeIntegerPlace 129 k_dec_highestPower 0 := ⟨w_num_129, y_dec_highestPower, by decide, by decide⟩
theorem q_num_writeIntegerPlace_133 : cf_qv k_num_writeIntegerPlace 133 k_num_writeDigit 3 := ⟨w_num_133, y_num_writeDigit, by decide, by decide⟩
theorem q_num_writeIntegerPlace_33 : cf_qv k_num_writeIntegerPlace 33 k_txt_add 1 := ⟨w_num_33, y_txt_add, by decide, by decide⟩
theorem q_num_writeDigit_137 : cf_qv k_num_writeDigit 137 k_dec_digitOf 1 := ⟨w_num_137, y_dec_digitOf, by decide, by decide⟩
theorem q_num_writeDigit_33 : cf_qv k_num_writeDigit 33 k_txt_add 1 := ⟨w_num_33, y_txt_add, by decide, by decide⟩
theorem q_num_writeFractionPlace_140 : cf_qv k_num_writeFractionPlace 140 k_num_onlyZerosFrom 2 := ⟨w_num_140, y_num_onlyZerosFrom, by decide, by decide⟩
theorem q_num_writeFractionPlace_137 : cf_qv k_num_writeFractionPlace 137 k_dec_digitOf 1 := ⟨w_num_137, y_dec_digitOf, by decide, by decide⟩
theorem q_num_writeFractionPlace_33 : cf_qv k_num_writeFractionPlace 33 k_txt_add 1 := ⟨w_num_33, y_txt_add, by decide, by decide⟩
theorem q_num_onlyZerosFrom_137 : cf_qv k_num_onlyZerosFrom 137 k_dec_digitOf 1 := ⟨w_num_137, y_dec_digitOf, by decide, by decide⟩
theorem q_num_writeExponentMark_33 : cf_qv k_num_writeExponentMark 33 k_txt_add 1 := ⟨w_num_33, y_txt_add, by decide, by decide⟩
theorem q_fmt_writePlain_179 : cf_qv k_fmt_writePlain 179 k_txt_add 1 := ⟨w_fmt_179, y_txt_add, by decide, by decide⟩
theorem q_fmt_writePlain_189 : cf_qv k_fmt_writePlain 189 k_tok_typeAt 1 := ⟨w_fmt_189, y_tok_typeAt, by decide, by decide⟩
theorem q_fmt_writePlain_192 : cf_qv k_fmt_writePlain 192 k_tok_valueAt 1 := ⟨w_fmt_192, y_tok_valueAt, by decide, by decide⟩
theorem q_fmt_charAt_121 : cf_qv k_fmt_charAt 121 k_txt_at 1 := ⟨w_fmt_121, y_txt_at, by decide, by decide⟩
theorem q_fmt_date_125 : cf_qv k_fmt_date 125 k_cal_findDay 1 := ⟨w_fmt_125, y_cal_findDay, by decide, by decide⟩
theorem q_fmt_serial_141 : cf_qv k_fmt_serial 141 k_cal_serialOf 3 := ⟨w_fmt_141, y_cal_serialOf, by decide, by decide⟩
theorem q_cal_serialOf_42 : cf_qs k_cal_serialOf 42 k_cal_monthLength 2 := ⟨w_cal_42, y_cal_monthLength, by decide, by decide⟩
theorem q_cal_serialOf_25 : cf_qs k_cal_serialOf 25 k_cal_daysBeforeYear 1 := ⟨w_cal_25, y_cal_daysBeforeYear, by decide, by decide⟩
theorem q_mod_compile_85 : cf_qv k_mod_compile 85 k_mod_token 1 := ⟨w_mod_85, y_mod_token, by decide, by decide⟩
theorem q_mod_compile_88 : cf_qv k_mod_compile 88 k_mod_wellMade 1 := ⟨w_mod_88, y_mod_wellMade, by decide, by decide⟩
theorem q_mod_token_51 : cf_qv k_mod_token 51 k_mod_at 1 := ⟨w_mod_51, y_mod_at, by decide, by decide⟩
theorem q_mod_token_66 : cf_qv k_mod_token 66 k_mod_quoted 1 := ⟨w_mod_66, y_mod_quoted, by decide, by decide⟩
theorem q_mod_token_55 : cf_qv k_mod_token 55 k_mod_meet 4 := ⟨w_mod_55, y_mod_meet, by decide, by decide⟩
theorem q_mod_token_70 : cf_qs k_mod_token 70 k_mod_bare 1 := ⟨w_mod_70, y_mod_bare, by decide, by decide⟩
theorem q_mod_token_73 : cf_qv k_mod_token 73 k_mod_bracket 1 := ⟨w_mod_73, y_mod_bracket, by decide, by decide⟩
theorem q_mod_token_76 : cf_qv k_mod_token 76 k_mod_letters 1 := ⟨w_mod_76, y_mod_letters, by decide, by decide⟩
theorem q_mod_quoted_55 : cf_qv k_mod_quoted 55 k_mod_meet 4 := ⟨w_mod_55, y_mod_meet, by decide, by decide⟩
theorem q_mod_bracket_51 : cf_qv k_mod_bracket 51 k_mod_at 1 := ⟨w_mod_51, y_mod_at, by decide, by decide⟩
theorem q_mod_bracket_55 : cf_qv k_mod_bracket 55 k_mod_meet 4 := ⟨w_mod_55, y_mod_meet, by decide, by decide⟩
theorem q_mod_bracket_59 : cf_qv k_mod_bracket 59 k_mod_comparison 1 := ⟨w_mod_59, y_mod_comparison, by decide, by decide⟩
theorem q_mod_bracket_62 : cf_qs k_mod_bracket 62 k_mod_digit 1 := ⟨w_mod_62, y_mod_digit, by decide, by decide⟩
theorem q_mod_comparison_51 : cf_qv k_mod_comparison 51 k_mod_at 1 := ⟨w_mod_51, y_mod_at, by decide, by decide⟩
theorem q_mod_letters_51 : cf_qv k_mod_letters 51 k_mod_at 1 := ⟨w_mod_51, y_mod_at, by decide, by decide⟩
theorem q_mod_letters_55 : cf_qv k_mod_letters 55 k_mod_meet 4 := ⟨w_mod_55, y_mod_meet, by decide, by decide⟩
theorem q_mod_wellMade_91 : cf_qv k_mod_wellMade 91 k_mod_count 3 := ⟨w_mod_91, y_mod_count, by decide, by decide⟩
theorem q_mod_wellMade_102 : cf_qv k_mod_wellMade 102 k_mod_kindOf 1 := ⟨w_mod_102, y_mod_kindOf, by decide, by decide⟩
theorem q_mod_wellMade_95 : cf_qv k_mod_wellMade 95 k_mod_find 2 := ⟨w_mod_95, y_mod_find, by decide, by decide⟩
theorem q_mod_wellMade_99 : cf_qv k_mod_wellMade 99 k_mod_integerEnd 1 := ⟨w_mod_99, y_mod_integerEnd, by decide, by decide⟩
theorem q_mod_wellMade_105 : cf_qv k_mod_wellMade 105 k_mod_groups 2 := ⟨w_mod_105, y_mod_groups, by decide, by decide⟩
theorem q_mod_wellMade_109 : cf_qv k_mod_wellMade 109 k_mod_scales 2 := ⟨w_mod_109, y_mod_scales, by decide, by decide⟩
theorem q_mod_kindOf_91 : cf_qv k_mod_kindOf 91 k_mod_count 3 := ⟨w_mod_91, y_mod_count, by decide, by decide⟩
theorem q_mod_integerEnd_95 : cf_qv k_mod_integerEnd 95 k_mod_find 2 := ⟨w_mod_95, y_mod_find, by decide, by decide⟩
theorem q_mod_groups_91 : cf_qv k_mod_groups 91 k_mod_count 3 := ⟨w_mod_91, y_mod_count, by decide, by decide⟩
theorem q_mod_groups_99 : cf_qv k_mod_groups 99 k_mod_integerEnd 1 := ⟨w_mod_99, y_mod_integerEnd, by decide, by decide⟩
theorem q_mod_scales_99 : cf_qv k_mod_scales 99 k_mod_integerEnd 1 := ⟨w_mod_99, y_mod_integerEnd, by decide, by decide⟩
theorem q_mod_scales_91 : cf_qv k_mod_scales 91 k_mod_count 3 := ⟨w_mod_91, y_mod_count, by decide, by decide⟩
theorem q_mod_kind_102 : cf_qv k_mod_kind 102 k_mod_kindOf 1 := ⟨w_mod_102, y_mod_kindOf, by decide, by decide⟩
theorem q_mod_date_197 : cf_qv k_mod_date 197 k_mod_firstSerial 0 := ⟨w_mod_197, y_mod_firstSerial, by decide, by decide⟩
theorem q_mod_date_206 : cf_qv k_mod_date 206 k_mod_lastSerial 0 := ⟨w_mod_206, y_mod_lastSerial, by decide, by decide⟩
theorem q_mod_date_200 : cf_qv k_mod_date 200 k_mod_firstYear 0 := ⟨w_mod_200, y_mod_firstYear, by decide, by decide⟩
theorem q_mod_date_203 : cf_qv k_mod_date 203 k_mod_daysOfYear 1 := ⟨w_mod_203, y_mod_daysOfYear, by decide, by decide⟩
theorem q_mod_date_194 : cf_qv k_mod_date 194 k_mod_daysOf 2 := ⟨w_mod_194, y_mod_daysOf, by decide, by decide⟩
theorem q_mod_lastSerial_197 : cf_qv k_mod_lastSerial 197 k_mod_firstSerial 0 := ⟨w_mod_197, y_mod_firstSerial, by decide, by decide⟩
theorem q_mod_lastSerial_200 : cf_qv k_mod_lastSerial 200 k_mod_firstYear 0 := ⟨w_mod_200, y_mod_firstYear, by decide, by decide⟩
theorem q_mod_lastSerial_203 : cf_qv k_mod_lastSerial 203 k_mod_daysOfYear 1 := ⟨w_mod_203, y_mod_daysOfYear, by decide, by decide⟩
theorem q_mod_daysOfYear_194 : cf_qv k_mod_daysOfYear 194 k_mod_daysOf 2 := ⟨w_mod_194, y_mod_daysOf, by decide, by decide⟩
theorem q_mod_daysOf_191 : cf_qs k_mod_daysOf 191 k_mod_leap 1 := ⟨w_mod_191, y_mod_leap, by decide, by decide⟩
theorem q_mod_serial_200 : cf_qv k_mod_serial 200 k_mod_firstYear 0 := ⟨w_mod_200, y_mod_firstYear, by decide, by decide⟩
theorem q_mod_serial_194 : cf_qv k_mod_serial 194 k_mod_daysOf 2 := ⟨w_mod_194, y_mod_daysOf, by decide, by decide⟩
theorem q_mod_serial_197 : cf_qv k_mod_serial 197 k_mod_firstSerial 0 := ⟨w_mod_197, y_mod_firstSerial, by decide, by decide⟩
theorem q_mod_serial_203 : cf_qv k_mod_serial 203 k_mod_daysOfYear 1 := ⟨w_mod_203, y_mod_daysOfYear, by decide, by decide⟩
theorem q_mod_show_247 : cf_qv k_mod_show 247 k_mod_sectionFor 1 := ⟨w_mod_247, y_mod_sectionFor, by decide, by decide⟩
theorem q_mod_show_121 : cf_qv k_mod_show 121 k_mod_anyCondition 0 := ⟨w_mod_121, y_mod_anyCondition, by decide, by decide⟩
theorem q_mod_show_102 : cf_qv k_mod_show 102 k_mod_kindOf 1 := ⟨w_mod_102, y_mod_kindOf, by decide, by decide⟩
theorem q_mod_show_250 : cf_qv k_mod_show 250 k_mod_moment 2 := ⟨w_mod_250, y_mod_moment, by decide, by decide⟩
theorem q_mod_show_132 : cf_qv k_mod_show 132 k_mod_put 1 := ⟨w_mod_132, y_mod_put, by decide, by decide⟩
theorem q_mod_show_253 : cf_qv k_mod_show 253 k_mod_plain 1 := ⟨w_mod_253, y_mod_plain, by decide, by decide⟩
theorem q_mod_show_256 : cf_qv k_mod_show 256 k_mod_reckon 2 := ⟨w_mod_256, y_mod_reckon, by decide, by decide⟩
theorem q_mod_show_260 : cf_qv k_mod_show 260 k_mod_number 1 := ⟨w_mod_260, y_mod_number, by decide, by decide⟩
theorem q_mod_sectionFor_121 : cf_qv k_mod_sectionFor 121 k_mod_anyCondition 0 := ⟨w_mod_121, y_mod_anyCondition, by decide, by decide⟩
theorem q_mod_sectionFor_118 : cf_qv k_mod_sectionFor 118 k_mod_conditional 1 := ⟨w_mod_118, y_mod_conditional, by decide, by decide⟩
theorem q_mod_sectionFor_125 : cf_qv k_mod_sectionFor 125 k_mod_holds 2 := ⟨w_mod_125, y_mod_holds, by decide, by decide⟩
theorem q_mod_anyCondition_118 : cf_qv k_mod_anyCondition 118 k_mod_conditional 1 := ⟨w_mod_118, y_mod_conditional, by decide, by decide⟩
theorem q_mod_moment_233 : cf_qv k_mod_moment 233 k_mod_daily 2 := ⟨w_mod_233, y_mod_daily, by decide, by decide⟩
theorem q_mod_moment_206 : cf_qv k_mod_moment 206 k_mod_lastSerial 0 := ⟨w_mod_206, y_mod_lastSerial, by decide, by decide⟩
theorem q_mod_moment_197 : cf_qv k_mod_moment 197 k_mod_firstSerial 0 := ⟨w_mod_197, y_mod_firstSerial, by decide, by decide⟩
theorem q_mod_moment_139 : cf_qv k_mod_moment 139 k_mod_putLiteral 1 := ⟨w_mod_139, y_mod_putLiteral, by decide, by decide⟩
theorem q_mod_moment_209 : cf_qv k_mod_moment 209 k_mod_field 1 := ⟨w_mod_209, y_mod_field, by decide, by decide⟩
theorem q_mod_moment_236 : cf_qv k_mod_moment 236 k_mod_dailyField 2 := ⟨w_mod_236, y_mod_dailyField, by decide, by decide⟩
theorem q_mod_moment_239 : cf_qv k_mod_moment 239 k_mod_timeField 4 := ⟨w_mod_239, y_mod_timeField, by decide, by decide⟩
theorem q_mod_daily_212 : cf_qv k_mod_daily 212 k_mod_minute 2 := ⟨w_mod_212, y_mod_minute, by decide, by decide⟩
theorem q_mod_minute_209 : cf_qv k_mod_minute 209 k_mod_field 1 := ⟨w_mod_209, y_mod_field, by decide, by decide⟩
theorem q_mod_putLiteral_132 : cf_qv k_mod_putLiteral 132 k_mod_put 1 := ⟨w_mod_132, y_mod_put, by decide, by decide⟩
theorem q_mod_dailyField_215 : cf_qv k_mod_dailyField 215 k_mod_date 2 := ⟨w_mod_215, y_mod_date, by decide, by decide⟩
theorem q_mod_dailyField_172 : cf_qv k_mod_dailyField 172 k_mod_putNumber 2 := ⟨w_mod_172, y_mod_putNumber, by decide, by decide⟩
theorem q_mod_dailyField_218 : cf_qv k_mod_dailyField 218 k_mod_month 1 := ⟨w_mod_218, y_mod_month, by decide, by decide⟩
theorem q_mod_dailyField_221 : cf_qv k_mod_dailyField 221 k_mod_weekday 1 := ⟨w_mod_221, y_mod_weekday, by decide, by decide⟩
theorem q_mod_putNumber_132 : cf_qv k_mod_putNumber 132 k_mod_put 1 := ⟨w_mod_132, y_mod_put, by decide, by decide⟩
theorem q_mod_month_132 : cf_qv k_mod_month 132 k_mod_put 1 := ⟨w_mod_132, y_mod_put, by decide, by decide⟩
theorem q_mod_weekday_132 : cf_qv k_mod_weekday 132 k_mod_put 1 := ⟨w_mod_132, y_mod_put, by decide, by decide⟩
theorem q_mod_timeField_91 : cf_qv k_mod_timeField 91 k_mod_count 3 := ⟨w_mod_91, y_mod_count, by decide, by decide⟩
theorem q_mod_timeField_132 : cf_qv k_mod_timeField 132 k_mod_put 1 := ⟨w_mod_132, y_mod_put, by decide, by decide⟩
theorem q_mod_timeField_172 : cf_qv k_mod_timeField 172 k_mod_putNumber 2 := ⟨w_mod_172, y_mod_putNumber, by decide, by decide⟩
theorem q_mod_plain_139 : cf_qv k_mod_plain 139 k_mod_putLiteral 1 := ⟨w_mod_139, y_mod_putLiteral, by decide, by decide⟩
theorem q_mod_reckon_91 : cf_qv k_mod_reckon 91 k_mod_count 3 := ⟨w_mod_91, y_mod_count, by decide, by decide⟩
theorem q_mod_reckon_109 : cf_qv k_mod_reckon 109 k_mod_scales 2 := ⟨w_mod_109, y_mod_scales, by decide, by decide⟩
theorem q_mod_reckon_95 : cf_qv k_mod_reckon 95 k_mod_find 2 := ⟨w_mod_95, y_mod_find, by decide, by decide⟩
theorem q_mod_reckon_161 : cf_qv k_mod_reckon 161 k_mod_round 3 := ⟨w_mod_161, y_mod_round, by decide, by decide⟩
theorem q_mod_reckon_99 : cf_qv k_mod_reckon 99 k_mod_integerEnd 1 := ⟨w_mod_99, y_mod_integerEnd, by decide, by decide⟩
theorem q_mod_reckon_154 : cf_qs k_mod_reckon 154 k_mod_lengthOf 1 := ⟨w_mod_154, y_mod_lengthOf, by decide, by decide⟩
theorem q_mod_reckon_165 : cf_qv k_mod_reckon 165 k_mod_top 0 := ⟨w_mod_165, y_mod_top, by decide, by decide⟩
theorem q_mod_top_154 : cf_qs k_mod_top 154 k_mod_lengthOf 1 := ⟨w_mod_154, y_mod_lengthOf, by decide, by decide⟩
theorem q_mod_number_105 : cf_qv k_mod_number 105 k_mod_groups 2 := ⟨w_mod_105, y_mod_groups, by decide, by decide⟩
theorem q_mod_number_139 : cf_qv k_mod_number 139 k_mod_putLiteral 1 := ⟨w_mod_139, y_mod_putLiteral, by decide, by decide⟩
theorem q_mod_number_132 : cf_qv k_mod_number 132 k_mod_put 1 := ⟨w_mod_132, y_mod_put, by decide, by decide⟩
theorem q_mod_number_188 : cf_qv k_mod_number 188 k_mod_place 3 := ⟨w_mod_188, y_mod_place, by decide, by decide⟩
theorem q_mod_place_99 : cf_qv k_mod_place 99 k_mod_integerEnd 1 := ⟨w_mod_99, y_mod_integerEnd, by decide, by decide⟩
theorem q_mod_place_95 : cf_qv k_mod_place 95 k_mod_find 2 := ⟨w_mod_95, y_mod_find, by decide, by decide⟩
theorem q_mod_place_91 : cf_qv k_mod_place 91 k_mod_count 3 := ⟨w_mod_91, y_mod_count, by decide, by decide⟩
theorem q_mod_place_176 : cf_qv k_mod_place 176 k_mod_integerPlace 4 := ⟨w_mod_176, y_mod_integerPlace, by decide, by decide⟩
theorem q_mod_place_180 : cf_qv k_mod_place 180 k_mod_fractionPlace 2 := ⟨w_mod_180, y_mod_fractionPlace, by decide, by decide⟩
theorem q_mod_place_184 : cf_qv k_mod_place 184 k_mod_exponentPlace 3 := ⟨w_mod_184, y_mod_exponentPlace, by decide, by decide⟩
theorem q_mod_integerPlace_165 : cf_qv k_mod_integerPlace 165 k_mod_top 0 := ⟨w_mod_165, y_mod_top, by decide, by decide⟩
theorem q_mod_integerPlace_169 : cf_qv k_mod_integerPlace 169 k_mod_digitOf 1 := ⟨w_mod_169, y_mod_digitOf, by decide, by decide⟩
theorem q_mod_integerPlace_132 : cf_qv k_mod_integerPlace 132 k_mod_put 1 := ⟨w_mod_132, y_mod_put, by decide, by decide⟩
theorem q_mod_fractionPlace_169 : cf_qv k_mod_fractionPlace 169 k_mod_digitOf 1 := ⟨w_mod_169, y_mod_digitOf, by decide, by decide⟩
theorem q_mod_fractionPlace_132 : cf_qv k_mod_fractionPlace 132 k_mod_put 1 := ⟨w_mod_132, y_mod_put, by decide, by decide⟩
theorem q_mod_exponentPlace_172 : cf_qv k_mod_exponentPlace 172 k_mod_putNumber 2 := ⟨w_mod_172, y_mod_putNumber, by decide, by decide⟩
theorem q_mod_exponentPlace_132 : cf_qv k_mod_exponentPlace 132 k_mod_put 1 := ⟨w_mod_132, y_mod_put, by decide, by decide⟩
end
section
/-! decode rows -/
theorem d_fmt_feed_0 : cf_D k_fmt_feed 0 (.iload_n 1) 1 1 := ⟨by decide +kernel, rfl⟩
theorem d_fmt_feed_1 : cf_D k_fmt_feed 1 (.bipush 32) 2 3 := ⟨by decide +kernel, rfl⟩
theorem d_fmt_feed_3 : cf_D k_fmt_feed 3 (.if_icmp .lt 18) 3 6 := ⟨by decide +kernel, rfl⟩
theorem d_fmt_feed_6 : cf_D k_fmt_feed 6 (.iload_n 1) 1 7 := ⟨by decide +kernel, rfl⟩
theorem d_fmt_feed_7 : cf_D k_fmt_feed 7 (.bipush 126) 2 9 := ⟨by decide +kernel, rfl⟩
theorem d_fmt_feed_9 : cf_D k_fmt_feed 9 (.if_icmp .gt 12) 3 12 := ⟨by decide +kernel, rfl⟩
theorem d_fmt_feed_12 : cf_D k_fmt_feed 12 (.aload_n 0) 1 13 := ⟨by decide +kernel, rfl⟩
theorem d_fmt_feed_13 : cf_D k_fmt_feed 13 (.getfield 13) 3 16 := ⟨by decide +kernel, rfl⟩
theorem d_fmt_feed_16 : cf_D k_fmt_feed 16 (.bipush 40) 2 18 := ⟨by decide +kernel, rfl⟩
theorem d_fmt_feed_18 : cf_D k_fmt_feed 18 (.if_icmp .lt 5) 3 21 := ⟨by decide +kernel, rfl⟩
theorem d_fmt_feed_21 : cf_D k_fmt_feed 21 (.iconst 0) 1 22 := ⟨by decide +kernel, rfl⟩
theorem d_fmt_feed_22 : cf_D k_fmt_feed 22 (.ireturn) 1 23 := ⟨by decide +kernel, rfl⟩
theorem d_fmt_feed_23 : cf_D k_fmt_feed 23 (.aload_n 0) 1 24 := ⟨by decide +kernel, rfl⟩
theorem d_fmt_feed_24 : cf_D k_fmt_feed 24 (.getfield 9) 3 27 := ⟨by decide +kernel, rfl⟩
theorem d_fmt_feed_27 : cf_D k_fmt_feed 27 (.aload_n 0) 1 28 := ⟨by decide +kernel, rfl⟩
theorem d_fmt_feed_28 : cf_D k_fmt_feed 28 (.getfield 13) 3 31 := ⟨by decide +kernel, rfl⟩
theorem d_fmt_feed_31 : cf_D k_fmt_feed 31 (.iload_n 1) 1 32 := ⟨by decide +kernel, rfl⟩
theorem d_fmt_feed_32 : cf_D k_fmt_feed 32 (.castore) 1 33 := ⟨by decide +kernel, rfl⟩
theorem d_fmt_feed_33 : cf_D k_fmt_feed 33 (.aload_n 0) 1 34 := ⟨by decide +kernel, rfl⟩
theorem d_fmt_feed_34 : cf_D k_fmt_feed 34 (.dup) 1 35 := ⟨by decide +kernel, rfl⟩
theorem d_fmt_feed_35 : cf_D k_fmt_feed 35 (.getfield 13) 3 38 := ⟨by decide +kernel, rfl⟩
theorem d_fmt_feed_38 : cf_D k_fmt_feed 38 (.iconst 1) 1 39 := ⟨by decide +kernel, rfl⟩
theorem d_fmt_feed_39 : cf_D k_fmt_feed 39 (.iadd) 1 40 := ⟨by decide +kernel, rfl⟩
theorem d_fmt_feed_40 : cf_D k_fmt_feed 40 (.putfield 13) 3 43 := ⟨by decide +kernel, rfl⟩
theorem d_fmt_feed_43 : cf_D k_fmt_feed 43 (.iconst 1) 1 44 := ⟨by decide +kernel, rfl⟩
theorem d_fmt_feed_44 : cf_D k_fmt_feed 44 (.ireturn) 1 45 := ⟨by decide +kernel, rfl⟩
theorem d_fmt_erase_0 : cf_D k_fmt_erase 0 (.aload_n 0) 1 1 := ⟨by decide +kernel, rfl⟩
theorem d_fmt_erase_1 : cf_D k_fmt_erase 1 (.iconst 0) 1 2 := ⟨by decide +kernel, rfl⟩
theorem d_fmt_erase_2 : cf_D k_fmt_erase 2 (.putfield 13) 3 5 := ⟨by decide +kernel, rfl⟩
theorem d_fmt_erase_5 : cf_D k_fmt_erase 5 (.return_) 1 6 := ⟨by decide +kernel, rfl⟩
theorem d_fmt_compile_0 : cf_D k_fmt_compile 0 (.aload_n 0) 1 1 := ⟨by decide +kernel, rfl⟩
theorem d_fmt_compile_1 : cf_D k_fmt_compile 1 (.iconst 0) 1 2 := ⟨by decide +kernel, rfl⟩
theorem d_fmt_compile_2 : cf_D k_fmt_compile 2 (.putfield 40) 3 5 := ⟨by decide +kernel, rfl⟩
theorem d_fmt_compile_5 : cf_D k_fmt_compile 5 (.aload_n 0) 1 6 := ⟨by decide +kernel, rfl⟩
theorem d_fmt_compile_6 : cf_D k_fmt_compile 6 (.getfield 29) 3 9 := ⟨by decide +kernel, rfl⟩
theorem d_fmt_compile_9 : cf_D k_fmt_compile 9 (.aload_n 0) 1 10 := ⟨by decide +kernel, rfl⟩
theorem d_fmt_compile_10 : cf_D k_fmt_compile 10 (.getfield 9) 3 13 := ⟨by decide +kernel, rfl⟩
theorem d_fmt_compile_13 : cf_D k_fmt_compile 13 (.aload_n 0) 1 14 := ⟨by decide +kernel, rfl⟩
theorem d_fmt_compile_14 : cf_D k_fmt_compile 14 (.getfield 13) 3 17 := ⟨by decide +kernel, rfl⟩
theorem d_fmt_compile_17 : cf_D k_fmt_compile 17 (.invokevirtual 82) 3 20 := ⟨by decide +kernel, rfl⟩
theorem d_fmt_compile_20 : cf_D k_fmt_compile 20 (.istore_n 1) 1 21 := ⟨by decide +kernel, rfl⟩
theorem d_fmt_compile_21 : cf_D k_fmt_compile 21 (.iload_n 1) 1 22 := ⟨by decide +kernel, rfl⟩
theorem d_fmt_compile_22 : cf_D k_fmt_compile 22 (.ifCond .lt 8) 3 25 := ⟨by decide +kernel, rfl⟩
theorem d_fmt_compile_25 : cf_D k_fmt_compile 25 (.bipush (-100)) 2 27 := ⟨by decide +kernel, rfl⟩
theorem d_fmt_compile_27 : cf_D k_fmt_compile 27 (.iload_n 1) 1 28 := ⟨by decide +kernel, rfl⟩
theorem d_fmt_compile_28 : cf_D k_fmt_compile 28 (.isub) 1 29 := ⟨by decide +kernel, rfl⟩
theorem d_fmt_compile_29 : cf_D k_fmt_compile 29 (.ireturn) 1 30 := ⟨by decide +kernel, rfl⟩
theorem d_fmt_compile_30 : cf_D k_fmt_compile 30 (.aload_n 0) 1 31 := ⟨by decide +kernel, rfl⟩
theorem d_fmt_compile_31 : cf_D k_fmt_compile 31 (.getfield 20) 3 34 := ⟨by decide +kernel, rfl⟩
theorem d_fmt_compile_34 : cf_D k_fmt_compile 34 (.bipush 11) 2 36 := ⟨by decide +kernel, rfl⟩
theorem d_fmt_compile_36 : cf_D k_fmt_compile 36 (.iconst 0) 1 37 := ⟨by decide +kernel, rfl⟩
theorem d_fmt_compile_37 : cf_D k_fmt_compile 37 (.aload_n 0) 1 38 := ⟨by decide +kernel, rfl⟩
theorem d_fmt_compile_38 : cf_D k_fmt_compile 38 (.getfield 20) 3 41 := ⟨by decide +kernel, rfl⟩
theorem d_fmt_compile_41 : cf_D k_fmt_compile 41 (.getfield 86) 3 44 := ⟨by decide +kernel, rfl⟩
theorem d_fmt_compile_44 : cf_D k_fmt_compile 44 (.invokevirtual 89) 3 47 := ⟨by decide +kernel, rfl⟩
theorem d_fmt_compile_47 : cf_D k_fmt_compile 47 (.iconst 1) 1 48 := ⟨by decide +kernel, rfl⟩
theorem d_fmt_compile_48 : cf_D k_fmt_compile 48 (.iadd) 1 49 := ⟨by decide +kernel, rfl⟩
theorem d_fmt_compile_49 : cf_D k_fmt_compile 49 (.istore_n 2) 1 50 := ⟨by decide +kernel, rfl⟩
theorem d_fmt_compile_50 : cf_D k_fmt_compile 50 (.iload_n 2) 1 51 := ⟨by decide +kernel, rfl⟩
theorem d_fmt_compile_51 : cf_D k_fmt_compile 51 (.iconst 3) 1 52 := ⟨by decide +kernel, rfl⟩
theorem d_fmt_compile_52 : cf_D k_fmt_compile 52 (.if_icmp .le 7) 3 55 := ⟨by decide +kernel, rfl⟩
theorem d_fmt_compile_55 : cf_D k_fmt_compile 55 (.sipush (-200)) 3 58 := ⟨by decide +kernel, rfl⟩
theorem d_fmt_compile_58 : cf_D k_fmt_compile 58 (.ireturn) 1 59 := ⟨by decide +kernel, rfl⟩
theorem d_fmt_compile_59 : cf_D k_fmt_compile 59 (.aload_n 0) 1 60 := ⟨by decide +kernel, rfl⟩
theorem d_fmt_compile_60 : cf_D k_fmt_compile 60 (.iload_n 2) 1 61 := ⟨by decide +kernel, rfl⟩
theorem d_fmt_compile_61 : cf_D k_fmt_compile 61 (.invokevirtual 93) 3 64 := ⟨by decide +kernel, rfl⟩
theorem d_fmt_compile_64 : cf_D k_fmt_compile 64 (.istore_n 3) 1 65 := ⟨by decide +kernel, rfl⟩
theorem d_fmt_compile_65 : cf_D k_fmt_compile 65 (.iload_n 3) 1 66 := ⟨by decide +kernel, rfl⟩
theorem d_fmt_compile_66 : cf_D k_fmt_compile 66 (.ifCond .lt 9) 3 69 := ⟨by decide +kernel, rfl⟩
theorem d_fmt_compile_69 : cf_D k_fmt_compile 69 (.sipush (-201)) 3 72 := ⟨by decide +kernel, rfl⟩
theorem d_fmt_compile_72 : cf_D k_fmt_compile 72 (.iload_n 3) 1 73 := ⟨by decide +kernel, rfl⟩
theorem d_fmt_compile_73 : cf_D k_fmt_compile 73 (.isub) 1 74 := ⟨by decide +kernel, rfl⟩
theorem d_fmt_compile_74 : cf_D k_fmt_compile 74 (.ireturn) 1 75 := ⟨by decide +kernel, rfl⟩
theorem d_fmt_compile_75 : cf_D k_fmt_compile 75 (.aload_n 0) 1 76 := ⟨by decide +kernel, rfl⟩
theorem d_fmt_compile_76 : cf_D k_fmt_compile 76 (.iload_n 2) 1 77 := ⟨by decide +kernel, rfl⟩
theorem d_fmt_compile_77 : cf_D k_fmt_compile 77 (.putfield 40) 3 80 := ⟨by decide +kernel, rfl⟩
theorem d_fmt_compile_80 : cf_D k_fmt_compile 80 (.iload_n 2) 1 81 := ⟨by decide +kernel, rfl⟩
theorem d_fmt_compile_81 : cf_D k_fmt_compile 81 (.ireturn) 1 82 := ⟨by decide +kernel, rfl⟩
theorem d_scn_scan_0 : cf_D k_scn_scan 0 (.aload_n 0) 1 1 := ⟨by decide +kernel, rfl⟩
theorem d_scn_scan_1 : cf_D k_scn_scan 1 (.aload_n 1) 1 2 := ⟨by decide +kernel, rfl⟩
theorem d_scn_scan_2 : cf_D k_scn_scan 2 (.putfield 15) 3 5 := ⟨by decide +kernel, rfl⟩
theorem d_scn_scan_5 : cf_D k_scn_scan 5 (.aload_n 0) 1 6 := ⟨by decide +kernel, rfl⟩
theorem d_scn_scan_6 : cf_D k_scn_scan 6 (.iload_n 2) 1 7 := ⟨by decide +kernel, rfl⟩
theorem d_scn_scan_7 : cf_D k_scn_scan 7 (.aload_n 1) 1 8 := ⟨by decide +kernel, rfl⟩
theorem d_scn_scan_8 : cf_D k_scn_scan 8 (.arraylength) 1 9 := ⟨by decide +kernel, rfl⟩
theorem d_scn_scan_9 : cf_D k_scn_scan 9 (.invokestatic 23) 3 12 := ⟨by decide +kernel, rfl⟩
theorem d_scn_scan_12 : cf_D k_scn_scan 12 (.putfield 19) 3 15 := ⟨by decide +kernel, rfl⟩
theorem d_scn_scan_15 : cf_D k_scn_scan 15 (.aload_n 0) 1 16 := ⟨by decide +kernel, rfl⟩
theorem d_scn_scan_16 : cf_D k_scn_scan 16 (.getfield 9) 3 19 := ⟨by decide +kernel, rfl⟩
theorem d_scn_scan_19 : cf_D k_scn_scan 19 (.invokevirtual 29) 3 22 := ⟨by decide +kernel, rfl⟩
theorem d_scn_scan_22 : cf_D k_scn_scan 22 (.iconst 0) 1 23 := ⟨by decide +kernel, rfl⟩
theorem d_scn_scan_23 : cf_D k_scn_scan 23 (.istore_n 3) 1 24 := ⟨by decide +kernel, rfl⟩
theorem d_scn_scan_24 : cf_D k_scn_scan 24 (.iload_n 3) 1 25 := ⟨by decide +kernel, rfl⟩
theorem d_scn_scan_25 : cf_D k_scn_scan 25 (.aload_n 0) 1 26 := ⟨by decide +kernel, rfl⟩
theorem d_scn_scan_26 : cf_D k_scn_scan 26 (.getfield 19) 3 29 := ⟨by decide +kernel, rfl⟩
theorem d_scn_scan_29 : cf_D k_scn_scan 29 (.if_icmp .ge 25) 3 32 := ⟨by decide +kernel, rfl⟩
theorem d_scn_scan_32 : cf_D k_scn_scan 32 (.aload_n 0) 1 33 := ⟨by decide +kernel, rfl⟩
theorem d_scn_scan_33 : cf_D k_scn_scan 33 (.iload_n 3) 1 34 := ⟨by decide +kernel, rfl⟩
theorem d_scn_scan_34 : cf_D k_scn_scan 34 (.invokevirtual 34) 3 37 := ⟨by decide +kernel, rfl⟩
theorem d_scn_scan_37 : cf_D k_scn_scan 37 (.istore 4) 2 39 := ⟨by decide +kernel, rfl⟩
theorem d_scn_scan_39 : cf_D k_scn_scan 39 (.iload 4) 2 41 := ⟨by decide +kernel, rfl⟩
theorem d_scn_scan_41 : cf_D k_scn_scan 41 (.ifCond .gt 5) 3 44 := ⟨by decide +kernel, rfl⟩
theorem d_scn_scan_44 : cf_D k_scn_scan 44 (.iload_n 3) 1 45 := ⟨by decide +kernel, rfl⟩
theorem d_scn_scan_45 : cf_D k_scn_scan 45 (.ireturn) 1 46 := ⟨by decide +kernel, rfl⟩
theorem d_scn_scan_46 : cf_D k_scn_scan 46 (.iload_n 3) 1 47 := ⟨by decide +kernel, rfl⟩
theorem d_scn_scan_47 : cf_D k_scn_scan 47 (.iload 4) 2 49 := ⟨by decide +kernel, rfl⟩
theorem d_scn_scan_49 : cf_D k_scn_scan 49 (.iadd) 1 50 := ⟨by decide +kernel, rfl⟩
theorem d_scn_scan_50 : cf_D k_scn_scan 50 (.istore_n 3) 1 51 := ⟨by decide +kernel, rfl⟩
theorem d_scn_scan_51 : cf_D k_scn_scan 51 (.goto (-27)) 3 54 := ⟨by decide +kernel, rfl⟩
theorem d_scn_scan_54 : cf_D k_scn_scan 54 (.iconst (-1)) 1 55 := ⟨by decide +kernel, rfl⟩
theorem d_scn_scan_55 : cf_D k_scn_scan 55 (.ireturn) 1 56 := ⟨by decide +kernel, rfl⟩
theorem d_math_min_0 : cf_D k_math_min 0 (.iload_n 0) 1 1 := ⟨by decide +kernel, rfl⟩
theorem d_math_min_1 : cf_D k_math_min 1 (.iload_n 1) 1 2 := ⟨by decide +kernel, rfl⟩
theorem d_math_min_2 : cf_D k_math_min 2 (.if_icmp .gt 7) 3 5 := ⟨by decide +kernel, rfl⟩
theorem d_math_min_5 : cf_D k_math_min 5 (.iload_n 0) 1 6 := ⟨by decide +kernel, rfl⟩
theorem d_math_min_6 : cf_D k_math_min 6 (.goto 4) 3 9 := ⟨by decide +kernel, rfl⟩
theorem d_math_min_9 : cf_D k_math_min 9 (.iload_n 1) 1 10 := ⟨by decide +kernel, rfl⟩
theorem d_math_min_10 : cf_D k_math_min 10 (.ireturn) 1 11 := ⟨by decide +kernel, rfl⟩
theorem d_tok_clear_0 : cf_D k_tok_clear 0 (.aload_n 0) 1 1 := ⟨by decide +kernel, rfl⟩
theorem d_tok_clear_1 : cf_D k_tok_clear 1 (.iconst 0) 1 2 := ⟨by decide +kernel, rfl⟩
theorem d_tok_clear_2 : cf_D k_tok_clear 2 (.putfield 21) 3 5 := ⟨by decide +kernel, rfl⟩
theorem d_tok_clear_5 : cf_D k_tok_clear 5 (.return_) 1 6 := ⟨by decide +kernel, rfl⟩
theorem d_scn_scanToken_0 : cf_D k_scn_scanToken 0 (.aload_n 0) 1 1 := ⟨by decide +kernel, rfl⟩
theorem d_scn_scanToken_1 : cf_D k_scn_scanToken 1 (.iload_n 1) 1 2 := ⟨by decide +kernel, rfl⟩
theorem d_scn_scanToken_2 : cf_D k_scn_scanToken 2 (.invokevirtual 38) 3 5 := ⟨by decide +kernel, rfl⟩
theorem d_scn_scanToken_5 : cf_D k_scn_scanToken 5 (.istore_n 2) 1 6 := ⟨by decide +kernel, rfl⟩
theorem d_scn_scanToken_6 : cf_D k_scn_scanToken 6 (.iload_n 2) 1 7 := ⟨by decide +kernel, rfl⟩
theorem d_scn_scanToken_7 : cf_D k_scn_scanToken 7 (.bipush 34) 2 9 := ⟨by decide +kernel, rfl⟩
theorem d_scn_scanToken_9 : cf_D k_scn_scanToken 9 (.if_icmp .ne 9) 3 12 := ⟨by decide +kernel, rfl⟩
theorem d_scn_scanToken_12 : cf_D k_scn_scanToken 12 (.aload_n 0) 1 13 := ⟨by decide +kernel, rfl⟩
theorem d_scn_scanToken_13 : cf_D k_scn_scanToken 13 (.iload_n 1) 1 14 := ⟨by decide +kernel, rfl⟩
theorem d_scn_scanToken_14 : cf_D k_scn_scanToken 14 (.invokevirtual 42) 3 17 := ⟨by decide +kernel, rfl⟩
theorem d_scn_scanToken_17 : cf_D k_scn_scanToken 17 (.ireturn) 1 18 := ⟨by decide +kernel, rfl⟩
theorem d_scn_scanToken_18 : cf_D k_scn_scanToken 18 (.iload_n 2) 1 19 := ⟨by decide +kernel, rfl⟩
theorem d_scn_scanToken_19 : cf_D k_scn_scanToken 19 (.bipush 92) 2 21 := ⟨by decide +kernel, rfl⟩
theorem d_scn_scanToken_21 : cf_D k_scn_scanToken 21 (.if_icmp .eq 9) 3 24 := ⟨by decide +kernel, rfl⟩
theorem d_scn_scanToken_24 : cf_D k_scn_scanToken 24 (.iload_n 2) 1 25 := ⟨by decide +kernel, rfl⟩
theorem d_scn_scanToken_25 : cf_D k_scn_scanToken 25 (.bipush 95) 2 27 := ⟨by decide +kernel, rfl⟩
theorem d_scn_scanToken_27 : cf_D k_scn_scanToken 27 (.if_icmp .ne 9) 3 30 := ⟨by decide +kernel, rfl⟩
theorem d_scn_scanToken_30 : cf_D k_scn_scanToken 30 (.aload_n 0) 1 31 := ⟨by decide +kernel, rfl⟩
theorem d_scn_scanToken_31 : cf_D k_scn_scanToken 31 (.iload_n 1) 1 32 := ⟨by decide +kernel, rfl⟩
theorem d_scn_scanToken_32 : cf_D k_scn_scanToken 32 (.invokevirtual 45) 3 35 := ⟨by decide +kernel, rfl⟩
theorem d_scn_scanToken_35 : cf_D k_scn_scanToken 35 (.ireturn) 1 36 := ⟨by decide +kernel, rfl⟩
theorem d_scn_scanToken_36 : cf_D k_scn_scanToken 36 (.iload_n 2) 1 37 := ⟨by decide +kernel, rfl⟩
theorem d_scn_scanToken_37 : cf_D k_scn_scanToken 37 (.bipush 91) 2 39 := ⟨by decide +kernel, rfl⟩
theorem d_scn_scanToken_39 : cf_D k_scn_scanToken 39 (.if_icmp .ne 9) 3 42 := ⟨by decide +kernel, rfl⟩
theorem d_scn_scanToken_42 : cf_D k_scn_scanToken 42 (.aload_n 0) 1 43 := ⟨by decide +kernel, rfl⟩
theorem d_scn_scanToken_43 : cf_D k_scn_scanToken 43 (.iload_n 1) 1 44 := ⟨by decide +kernel, rfl⟩
theorem d_scn_scanToken_44 : cf_D k_scn_scanToken 44 (.invokevirtual 48) 3 47 := ⟨by decide +kernel, rfl⟩
theorem d_scn_scanToken_47 : cf_D k_scn_scanToken 47 (.ireturn) 1 48 := ⟨by decide +kernel, rfl⟩
theorem d_scn_scanToken_48 : cf_D k_scn_scanToken 48 (.iload_n 2) 1 49 := ⟨by decide +kernel, rfl⟩
theorem d_scn_scanToken_49 : cf_D k_scn_scanToken 49 (.bipush 69) 2 51 := ⟨by decide +kernel, rfl⟩
theorem d_scn_scanToken_51 : cf_D k_scn_scanToken 51 (.if_icmp .ne 9) 3 54 := ⟨by decide +kernel, rfl⟩
theorem d_scn_scanToken_54 : cf_D k_scn_scanToken 54 (.aload_n 0) 1 55 := ⟨by decide +kernel, rfl⟩
theorem d_scn_scanToken_55 : cf_D k_scn_scanToken 55 (.iload_n 1) 1 56 := ⟨by decide +kernel, rfl⟩
theorem d_scn_scanToken_56 : cf_D k_scn_scanToken 56 (.invokevirtual 51) 3 59 := ⟨by decide +kernel, rfl⟩
theorem d_scn_scanToken_59 : cf_D k_scn_scanToken 59 (.ireturn) 1 60 := ⟨by decide +kernel, rfl⟩
theorem d_scn_scanToken_60 : cf_D k_scn_scanToken 60 (.iload_n 2) 1 61 := ⟨by decide +kernel, rfl⟩
theorem d_scn_scanToken_61 : cf_D k_scn_scanToken 61 (.bipush 65) 2 63 := ⟨by decide +kernel, rfl⟩
theorem d_scn_scanToken_63 : cf_D k_scn_scanToken 63 (.if_icmp .ne 9) 3 66 := ⟨by decide +kernel, rfl⟩
theorem d_scn_scanToken_66 : cf_D k_scn_scanToken 66 (.aload_n 0) 1 67 := ⟨by decide +kernel, rfl⟩
theorem d_scn_scanToken_67 : cf_D k_scn_scanToken 67 (.iload_n 1) 1 68 := ⟨by decide +kernel, rfl⟩
theorem d_scn_scanToken_68 : cf_D k_scn_scanToken 68 (.invokevirtual 54) 3 71 := ⟨by decide +kernel, rfl⟩
theorem d_scn_scanToken_71 : cf_D k_scn_scanToken 71 (.ireturn) 1 72 := ⟨by decide +kernel, rfl⟩
theorem d_scn_scanToken_72 : cf_D k_scn_scanToken 72 (.ldc 57) 2 74 := ⟨by decide +kernel, rfl⟩
theorem d_scn_scanToken_74 : cf_D k_scn_scanToken 74 (.iload_n 2) 1 75 := ⟨by decide +kernel, rfl⟩
theorem d_scn_scanToken_75 : cf_D k_scn_scanToken 75 (.invokevirtual 59) 3 78 := ⟨by decide +kernel, rfl⟩
theorem d_scn_scanToken_78 : cf_D k_scn_scanToken 78 (.ifCond .lt 9) 3 81 := ⟨by decide +kernel, rfl⟩
theorem d_scn_scanToken_81 : cf_D k_scn_scanToken 81 (.aload_n 0) 1 82 := ⟨by decide +kernel, rfl⟩
theorem d_scn_scanToken_82 : cf_D k_scn_scanToken 82 (.iload_n 1) 1 83 := ⟨by decide +kernel, rfl⟩
theorem d_scn_scanToken_83 : cf_D k_scn_scanToken 83 (.invokevirtual 64) 3 86 := ⟨by decide +kernel, rfl⟩
theorem d_scn_scanToken_86 : cf_D k_scn_scanToken 86 (.ireturn) 1 87 := ⟨by decide +kernel, rfl⟩
theorem d_scn_scanToken_87 : cf_D k_scn_scanToken 87 (.aload_n 0) 1 88 := ⟨by decide +kernel, rfl⟩
theorem d_scn_scanToken_88 : cf_D k_scn_scanToken 88 (.iload_n 2) 1 89 := ⟨by decide +kernel, rfl⟩
theorem d_scn_scanToken_89 : cf_D k_scn_scanToken 89 (.invokevirtual 67) 3 92 := ⟨by decide +kernel, rfl⟩
theorem d_scn_scanToken_92 : cf_D k_scn_scanToken 92 (.ireturn) 1 93 := ⟨by decide +kernel, rfl⟩
theorem d_scn_at_0 : cf_D k_scn_at 0 (.iload_n 1) 1 1 := ⟨by decide +kernel, rfl⟩
theorem d_scn_at_1 : cf_D k_scn_at 1 (.ifCond .lt 20) 3 4 := ⟨by decide +kernel, rfl⟩
theorem d_scn_at_4 : cf_D k_scn_at 4 (.iload_n 1) 1 5 := ⟨by decide +kernel, rfl⟩
theorem d_scn_at_5 : cf_D k_scn_at 5 (.aload_n 0) 1 6 := ⟨by decide +kernel, rfl⟩
theorem d_scn_at_6 : cf_D k_scn_at 6 (.getfield 19) 3 9 := ⟨by decide +kernel, rfl⟩
theorem d_scn_at_9 : cf_D k_scn_at 9 (.if_icmp .ge 12) 3 12 := ⟨by decide +kernel, rfl⟩
theorem d_scn_at_12 : cf_D k_scn_at 12 (.aload_n 0) 1 13 := ⟨by decide +kernel, rfl⟩
theorem d_scn_at_13 : cf_D k_scn_at 13 (.getfield 15) 3 16 := ⟨by decide +kernel, rfl⟩
theorem d_scn_at_16 : cf_D k_scn_at 16 (.iload_n 1) 1 17 := ⟨by decide +kernel, rfl⟩
theorem d_scn_at_17 : cf_D k_scn_at 17 (.caload) 1 18 := ⟨by decide +kernel, rfl⟩
theorem d_scn_at_18 : cf_D k_scn_at 18 (.goto 4) 3 21 := ⟨by decide +kernel, rfl⟩
theorem d_scn_at_21 : cf_D k_scn_at 21 (.iconst 0) 1 22 := ⟨by decide +kernel, rfl⟩
theorem d_scn_at_22 : cf_D k_scn_at 22 (.ireturn) 1 23 := ⟨by decide +kernel, rfl⟩
theorem d_scn_scanQuoted_0 : cf_D k_scn_scanQuoted 0 (.iload_n 1) 1 1 := ⟨by decide +kernel, rfl⟩
theorem d_scn_scanQuoted_1 : cf_D k_scn_scanQuoted 1 (.iconst 1) 1 2 := ⟨by decide +kernel, rfl⟩
theorem d_scn_scanQuoted_2 : cf_D k_scn_scanQuoted 2 (.iadd) 1 3 := ⟨by decide +kernel, rfl⟩
theorem d_scn_scanQuoted_3 : cf_D k_scn_scanQuoted 3 (.istore_n 2) 1 4 := ⟨by decide +kernel, rfl⟩
theorem d_scn_scanQuoted_4 : cf_D k_scn_scanQuoted 4 (.iload_n 2) 1 5 := ⟨by decide +kernel, rfl⟩
theorem d_scn_scanQuoted_5 : cf_D k_scn_scanQuoted 5 (.aload_n 0) 1 6 := ⟨by decide +kernel, rfl⟩
theorem d_scn_scanQuoted_6 : cf_D k_scn_scanQuoted 6 (.getfield 19) 3 9 := ⟨by decide +kernel, rfl⟩
theorem d_scn_scanQuoted_9 : cf_D k_scn_scanQuoted 9 (.if_icmp .ge 19) 3 12 := ⟨by decide +kernel, rfl⟩
theorem d_scn_scanQuoted_12 : cf_D k_scn_scanQuoted 12 (.aload_n 0) 1 13 := ⟨by decide +kernel, rfl⟩
theorem d_scn_scanQuoted_13 : cf_D k_scn_scanQuoted 13 (.iload_n 2) 1 14 := ⟨by decide +kernel, rfl⟩
theorem d_scn_scanQuoted_14 : cf_D k_scn_scanQuoted 14 (.invokevirtual 38) 3 17 := ⟨by decide +kernel, rfl⟩
theorem d_scn_scanQuoted_17 : cf_D k_scn_scanQuoted 17 (.bipush 34) 2 19 := ⟨by decide +kernel, rfl⟩
theorem d_scn_scanQuoted_19 : cf_D k_scn_scanQuoted 19 (.if_icmp .eq 9) 3 22 := ⟨by decide +kernel, rfl⟩
theorem d_scn_scanQuoted_22 : cf_D k_scn_scanQuoted 22 (.iinc 2 1) 3 25 := ⟨by decide +kernel, rfl⟩
theorem d_scn_scanQuoted_25 : cf_D k_scn_scanQuoted 25 (.goto (-21)) 3 28 := ⟨by decide +kernel, rfl⟩
theorem d_scn_scanQuoted_28 : cf_D k_scn_scanQuoted 28 (.iload_n 2) 1 29 := ⟨by decide +kernel, rfl⟩
theorem d_scn_scanQuoted_29 : cf_D k_scn_scanQuoted 29 (.aload_n 0) 1 30 := ⟨by decide +kernel, rfl⟩
theorem d_scn_scanQuoted_30 : cf_D k_scn_scanQuoted 30 (.getfield 19) 3 33 := ⟨by decide +kernel, rfl⟩
theorem d_scn_scanQuoted_33 : cf_D k_scn_scanQuoted 33 (.if_icmp .lt 5) 3 36 := ⟨by decide +kernel, rfl⟩
theorem d_scn_scanQuoted_36 : cf_D k_scn_scanQuoted 36 (.iconst 0) 1 37 := ⟨by decide +kernel, rfl⟩
theorem d_scn_scanQuoted_37 : cf_D k_scn_scanQuoted 37 (.ireturn) 1 38 := ⟨by decide +kernel, rfl⟩
theorem d_scn_scanQuoted_38 : cf_D k_scn_scanQuoted 38 (.aload_n 0) 1 39 := ⟨by decide +kernel, rfl⟩
theorem d_scn_scanQuoted_39 : cf_D k_scn_scanQuoted 39 (.getfield 9) 3 42 := ⟨by decide +kernel, rfl⟩
theorem d_scn_scanQuoted_42 : cf_D k_scn_scanQuoted 42 (.iconst 0) 1 43 := ⟨by decide +kernel, rfl⟩
theorem d_scn_scanQuoted_43 : cf_D k_scn_scanQuoted 43 (.iconst 0) 1 44 := ⟨by decide +kernel, rfl⟩
theorem d_scn_scanQuoted_44 : cf_D k_scn_scanQuoted 44 (.iconst 0) 1 45 := ⟨by decide +kernel, rfl⟩
theorem d_scn_scanQuoted_45 : cf_D k_scn_scanQuoted 45 (.invokevirtual 71) 3 48 := ⟨by decide +kernel, rfl⟩
theorem d_scn_scanQuoted_48 : cf_D k_scn_scanQuoted 48 (.iload_n 1) 1 49 := ⟨by decide +kernel, rfl⟩
theorem d_scn_scanQuoted_49 : cf_D k_scn_scanQuoted 49 (.iconst 1) 1 50 := ⟨by decide +kernel, rfl⟩
theorem d_scn_scanQuoted_50 : cf_D k_scn_scanQuoted 50 (.iadd) 1 51 := ⟨by decide +kernel, rfl⟩
theorem d_scn_scanQuoted_51 : cf_D k_scn_scanQuoted 51 (.istore_n 3) 1 52 := ⟨by decide +kernel, rfl⟩
theorem d_scn_scanQuoted_52 : cf_D k_scn_scanQuoted 52 (.iload_n 3) 1 53 := ⟨by decide +kernel, rfl⟩
theorem d_scn_scanQuoted_53 : cf_D k_scn_scanQuoted 53 (.iload_n 2) 1 54 := ⟨by decide +kernel, rfl⟩
theorem d_scn_scanQuoted_54 : cf_D k_scn_scanQuoted 54 (.if_icmp .ge 23) 3 57 := ⟨by decide +kernel, rfl⟩
theorem d_scn_scanQuoted_57 : cf_D k_scn_scanQuoted 57 (.aload_n 0) 1 58 := ⟨by decide +kernel, rfl⟩
theorem d_scn_scanQuoted_58 : cf_D k_scn_scanQuoted 58 (.getfield 9) 3 61 := ⟨by decide +kernel, rfl⟩
theorem d_scn_scanQuoted_61 : cf_D k_scn_scanQuoted 61 (.iconst 1) 1 62 := ⟨by decide +kernel, rfl⟩
theorem d_scn_scanQuoted_62 : cf_D k_scn_scanQuoted 62 (.aload_n 0) 1 63 := ⟨by decide +kernel, rfl⟩
theorem d_scn_scanQuoted_63 : cf_D k_scn_scanQuoted 63 (.iload_n 3) 1 64 := ⟨by decide +kernel, rfl⟩
theorem d_scn_scanQuoted_64 : cf_D k_scn_scanQuoted 64 (.invokevirtual 38) 3 67 := ⟨by decide +kernel, rfl⟩
theorem d_scn_scanQuoted_67 : cf_D k_scn_scanQuoted 67 (.iconst 0) 1 68 := ⟨by decide +kernel, rfl⟩
theorem d_scn_scanQuoted_68 : cf_D k_scn_scanQuoted 68 (.invokevirtual 71) 3 71 := ⟨by decide +kernel, rfl⟩
theorem d_scn_scanQuoted_71 : cf_D k_scn_scanQuoted 71 (.iinc 3 1) 3 74 := ⟨by decide +kernel, rfl⟩
theorem d_scn_scanQuoted_74 : cf_D k_scn_scanQuoted 74 (.goto (-22)) 3 77 := ⟨by decide +kernel, rfl⟩
theorem d_scn_scanQuoted_77 : cf_D k_scn_scanQuoted 77 (.iload_n 2) 1 78 := ⟨by decide +kernel, rfl⟩
theorem d_scn_scanQuoted_78 : cf_D k_scn_scanQuoted 78 (.iconst 1) 1 79 := ⟨by decide +kernel, rfl⟩
theorem d_scn_scanQuoted_79 : cf_D k_scn_scanQuoted 79 (.iadd) 1 80 := ⟨by decide +kernel, rfl⟩
theorem d_scn_scanQuoted_80 : cf_D k_scn_scanQuoted 80 (.iload_n 1) 1 81 := ⟨by decide +kernel, rfl⟩
theorem d_scn_scanQuoted_81 : cf_D k_scn_scanQuoted 81 (.isub) 1 82 := ⟨by decide +kernel, rfl⟩
theorem d_scn_scanQuoted_82 : cf_D k_scn_scanQuoted 82 (.ireturn) 1 83 := ⟨by decide +kernel, rfl⟩
theorem d_tok_add_0 : cf_D k_tok_add 0 (.aload_n 0) 1 1 := ⟨by decide +kernel, rfl⟩
theorem d_tok_add_1 : cf_D k_tok_add 1 (.getfield 21) 3 4 := ⟨by decide +kernel, rfl⟩
theorem d_tok_add_4 : cf_D k_tok_add 4 (.bipush 40) 2 6 := ⟨by decide +kernel, rfl⟩
theorem d_tok_add_6 : cf_D k_tok_add 6 (.if_icmp .ge 43) 3 9 := ⟨by decide +kernel, rfl⟩
theorem d_tok_add_9 : cf_D k_tok_add 9 (.aload_n 0) 1 10 := ⟨by decide +kernel, rfl⟩
theorem d_tok_add_10 : cf_D k_tok_add 10 (.getfield 9) 3 13 := ⟨by decide +kernel, rfl⟩
theorem d_tok_add_13 : cf_D k_tok_add 13 (.aload_n 0) 1 14 := ⟨by decide +kernel, rfl⟩
theorem d_tok_add_14 : cf_D k_tok_add 14 (.getfield 21) 3 17 := ⟨by decide +kernel, rfl⟩
theorem d_tok_add_17 : cf_D k_tok_add 17 (.iload_n 1) 1 18 := ⟨by decide +kernel, rfl⟩
theorem d_tok_add_18 : cf_D k_tok_add 18 (.iastore) 1 19 := ⟨by decide +kernel, rfl⟩
theorem d_tok_add_19 : cf_D k_tok_add 19 (.aload_n 0) 1 20 := ⟨by decide +kernel, rfl⟩
theorem d_tok_add_20 : cf_D k_tok_add 20 (.getfield 15) 3 23 := ⟨by decide +kernel, rfl⟩
theorem d_tok_add_23 : cf_D k_tok_add 23 (.aload_n 0) 1 24 := ⟨by decide +kernel, rfl⟩
theorem d_tok_add_24 : cf_D k_tok_add 24 (.getfield 21) 3 27 := ⟨by decide +kernel, rfl⟩
theorem d_tok_add_27 : cf_D k_tok_add 27 (.iload_n 2) 1 28 := ⟨by decide +kernel, rfl⟩
theorem d_tok_add_28 : cf_D k_tok_add 28 (.iastore) 1 29 := ⟨by decide +kernel, rfl⟩
theorem d_tok_add_29 : cf_D k_tok_add 29 (.aload_n 0) 1 30 := ⟨by decide +kernel, rfl⟩
theorem d_tok_add_30 : cf_D k_tok_add 30 (.getfield 18) 3 33 := ⟨by decide +kernel, rfl⟩
theorem d_tok_add_33 : cf_D k_tok_add 33 (.aload_n 0) 1 34 := ⟨by decide +kernel, rfl⟩
theorem d_tok_add_34 : cf_D k_tok_add 34 (.getfield 21) 3 37 := ⟨by decide +kernel, rfl⟩
theorem d_tok_add_37 : cf_D k_tok_add 37 (.iload_n 3) 1 38 := ⟨by decide +kernel, rfl⟩
theorem d_tok_add_38 : cf_D k_tok_add 38 (.iastore) 1 39 := ⟨by decide +kernel, rfl⟩
theorem d_tok_add_39 : cf_D k_tok_add 39 (.aload_n 0) 1 40 := ⟨by decide +kernel, rfl⟩
theorem d_tok_add_40 : cf_D k_tok_add 40 (.dup) 1 41 := ⟨by decide +kernel, rfl⟩
theorem d_tok_add_41 : cf_D k_tok_add 41 (.getfield 21) 3 44 := ⟨by decide +kernel, rfl⟩
theorem d_tok_add_44 : cf_D k_tok_add 44 (.iconst 1) 1 45 := ⟨by decide +kernel, rfl⟩
theorem d_tok_add_45 : cf_D k_tok_add 45 (.iadd) 1 46 := ⟨by decide +kernel, rfl⟩
theorem d_tok_add_46 : cf_D k_tok_add 46 (.putfield 21) 3 49 := ⟨by decide +kernel, rfl⟩
theorem d_tok_add_49 : cf_D k_tok_add 49 (.return_) 1 50 := ⟨by decide +kernel, rfl⟩
theorem d_scn_scanEscaped_0 : cf_D k_scn_scanEscaped 0 (.iload_n 1) 1 1 := ⟨by decide +kernel, rfl⟩
theorem d_scn_scanEscaped_1 : cf_D k_scn_scanEscaped 1 (.iconst 1) 1 2 := ⟨by decide +kernel, rfl⟩
theorem d_scn_scanEscaped_2 : cf_D k_scn_scanEscaped 2 (.iadd) 1 3 := ⟨by decide +kernel, rfl⟩
theorem d_scn_scanEscaped_3 : cf_D k_scn_scanEscaped 3 (.aload_n 0) 1 4 := ⟨by decide +kernel, rfl⟩
theorem d_scn_scanEscaped_4 : cf_D k_scn_scanEscaped 4 (.getfield 19) 3 7 := ⟨by decide +kernel, rfl⟩
theorem d_scn_scanEscaped_7 : cf_D k_scn_scanEscaped 7 (.if_icmp .lt 5) 3 10 := ⟨by decide +kernel, rfl⟩
theorem d_scn_scanEscaped_10 : cf_D k_scn_scanEscaped 10 (.iconst 0) 1 11 := ⟨by decide +kernel, rfl⟩
theorem d_scn_scanEscaped_11 : cf_D k_scn_scanEscaped 11 (.ireturn) 1 12 := ⟨by decide +kernel, rfl⟩
theorem d_scn_scanEscaped_12 : cf_D k_scn_scanEscaped 12 (.aload_n 0) 1 13 := ⟨by decide +kernel, rfl⟩
theorem d_scn_scanEscaped_13 : cf_D k_scn_scanEscaped 13 (.getfield 9) 3 16 := ⟨by decide +kernel, rfl⟩
theorem d_scn_scanEscaped_16 : cf_D k_scn_scanEscaped 16 (.iconst 1) 1 17 := ⟨by decide +kernel, rfl⟩
theorem d_scn_scanEscaped_17 : cf_D k_scn_scanEscaped 17 (.aload_n 0) 1 18 := ⟨by decide +kernel, rfl⟩
theorem d_scn_scanEscaped_18 : cf_D k_scn_scanEscaped 18 (.iload_n 1) 1 19 := ⟨by decide +kernel, rfl⟩
theorem d_scn_scanEscaped_19 : cf_D k_scn_scanEscaped 19 (.invokevirtual 38) 3 22 := ⟨by decide +kernel, rfl⟩
theorem d_scn_scanEscaped_22 : cf_D k_scn_scanEscaped 22 (.bipush 95) 2 24 := ⟨by decide +kernel, rfl⟩
theorem d_scn_scanEscaped_24 : cf_D k_scn_scanEscaped 24 (.if_icmp .ne 8) 3 27 := ⟨by decide +kernel, rfl⟩
theorem d_scn_scanEscaped_27 : cf_D k_scn_scanEscaped 27 (.bipush 32) 2 29 := ⟨by decide +kernel, rfl⟩
theorem d_scn_scanEscaped_29 : cf_D k_scn_scanEscaped 29 (.goto 10) 3 32 := ⟨by decide +kernel, rfl⟩
theorem d_scn_scanEscaped_32 : cf_D k_scn_scanEscaped 32 (.aload_n 0) 1 33 := ⟨by decide +kernel, rfl⟩
theorem d_scn_scanEscaped_33 : cf_D k_scn_scanEscaped 33 (.iload_n 1) 1 34 := ⟨by decide +kernel, rfl⟩
theorem d_scn_scanEscaped_34 : cf_D k_scn_scanEscaped 34 (.iconst 1) 1 35 := ⟨by decide +kernel, rfl⟩
theorem d_scn_scanEscaped_35 : cf_D k_scn_scanEscaped 35 (.iadd) 1 36 := ⟨by decide +kernel, rfl⟩
theorem d_scn_scanEscaped_36 : cf_D k_scn_scanEscaped 36 (.invokevirtual 38) 3 39 := ⟨by decide +kernel, rfl⟩
theorem d_scn_scanEscaped_39 : cf_D k_scn_scanEscaped 39 (.iconst 0) 1 40 := ⟨by decide +kernel, rfl⟩
theorem d_scn_scanEscaped_40 : cf_D k_scn_scanEscaped 40 (.invokevirtual 71) 3 43 := ⟨by decide +kernel, rfl⟩
theorem d_scn_scanEscaped_43 : cf_D k_scn_scanEscaped 43 (.iconst 2) 1 44 := ⟨by decide +kernel, rfl⟩
theorem d_scn_scanEscaped_44 : cf_D k_scn_scanEscaped 44 (.ireturn) 1 45 := ⟨by decide +kernel, rfl⟩
theorem d_scn_scanBracket_0 : cf_D k_scn_scanBracket 0 (.aload_n 0) 1 1 := ⟨by decide +kernel, rfl⟩
theorem d_scn_scanBracket_1 : cf_D k_scn_scanBracket 1 (.iload_n 1) 1 2 := ⟨by decide +kernel, rfl⟩
theorem d_scn_scanBracket_2 : cf_D k_scn_scanBracket 2 (.iconst 1) 1 3 := ⟨by decide +kernel, rfl⟩
theorem d_scn_scanBracket_3 : cf_D k_scn_scanBracket 3 (.iadd) 1 4 := ⟨by decide +kernel, rfl⟩
theorem d_scn_scanBracket_4 : cf_D k_scn_scanBracket 4 (.invokevirtual 38) 3 7 := ⟨by decide +kernel, rfl⟩
theorem d_scn_scanBracket_7 : cf_D k_scn_scanBracket 7 (.istore_n 2) 1 8 := ⟨by decide +kernel, rfl⟩
theorem d_scn_scanBracket_8 : cf_D k_scn_scanBracket 8 (.ldc 75) 2 10 := ⟨by decide +kernel, rfl⟩
theorem d_scn_scanBracket_10 : cf_D k_scn_scanBracket 10 (.iload_n 2) 1 11 := ⟨by decide +kernel, rfl⟩
theorem d_scn_scanBracket_11 : cf_D k_scn_scanBracket 11 (.invokevirtual 59) 3 14 := ⟨by decide +kernel, rfl⟩
theorem d_scn_scanBracket_14 : cf_D k_scn_scanBracket 14 (.ifCond .lt 28) 3 17 := ⟨by decide +kernel, rfl⟩
theorem d_scn_scanBracket_17 : cf_D k_scn_scanBracket 17 (.aload_n 0) 1 18 := ⟨by decide +kernel, rfl⟩
theorem d_scn_scanBracket_18 : cf_D k_scn_scanBracket 18 (.iload_n 1) 1 19 := ⟨by decide +kernel, rfl⟩
theorem d_scn_scanBracket_19 : cf_D k_scn_scanBracket 19 (.iconst 2) 1 20 := ⟨by decide +kernel, rfl⟩
theorem d_scn_scanBracket_20 : cf_D k_scn_scanBracket 20 (.iadd) 1 21 := ⟨by decide +kernel, rfl⟩
theorem d_scn_scanBracket_21 : cf_D k_scn_scanBracket 21 (.invokevirtual 38) 3 24 := ⟨by decide +kernel, rfl⟩
theorem d_scn_scanBracket_24 : cf_D k_scn_scanBracket 24 (.bipush 93) 2 26 := ⟨by decide +kernel, rfl⟩
theorem d_scn_scanBracket_26 : cf_D k_scn_scanBracket 26 (.if_icmp .ne 16) 3 29 := ⟨by decide +kernel, rfl⟩
theorem d_scn_scanBracket_29 : cf_D k_scn_scanBracket 29 (.aload_n 0) 1 30 := ⟨by decide +kernel, rfl⟩
theorem d_scn_scanBracket_30 : cf_D k_scn_scanBracket 30 (.getfield 9) 3 33 := ⟨by decide +kernel, rfl⟩
theorem d_scn_scanBracket_33 : cf_D k_scn_scanBracket 33 (.bipush 9) 2 35 := ⟨by decide +kernel, rfl⟩
theorem d_scn_scanBracket_35 : cf_D k_scn_scanBracket 35 (.iload_n 2) 1 36 := ⟨by decide +kernel, rfl⟩
theorem d_scn_scanBracket_36 : cf_D k_scn_scanBracket 36 (.iconst 0) 1 37 := ⟨by decide +kernel, rfl⟩
theorem d_scn_scanBracket_37 : cf_D k_scn_scanBracket 37 (.invokevirtual 71) 3 40 := ⟨by decide +kernel, rfl⟩
theorem d_scn_scanBracket_40 : cf_D k_scn_scanBracket 40 (.iconst 3) 1 41 := ⟨by decide +kernel, rfl⟩
theorem d_scn_scanBracket_41 : cf_D k_scn_scanBracket 41 (.ireturn) 1 42 := ⟨by decide +kernel, rfl⟩
theorem d_scn_scanBracket_42 : cf_D k_scn_scanBracket 42 (.aload_n 0) 1 43 := ⟨by decide +kernel, rfl⟩
theorem d_scn_scanBracket_43 : cf_D k_scn_scanBracket 43 (.iload_n 1) 1 44 := ⟨by decide +kernel, rfl⟩
theorem d_scn_scanBracket_44 : cf_D k_scn_scanBracket 44 (.invokevirtual 77) 3 47 := ⟨by decide +kernel, rfl⟩
theorem d_scn_scanBracket_47 : cf_D k_scn_scanBracket 47 (.ireturn) 1 48 := ⟨by decide +kernel, rfl⟩
theorem d_str_indexOf_I_0 : cf_D k_str_indexOf_I 0 (.aload_n 0) 1 1 := ⟨by decide +kernel, rfl⟩
theorem d_str_indexOf_I_1 : cf_D k_str_indexOf_I 1 (.iload_n 1) 1 2 := ⟨by decide +kernel, rfl⟩
theorem d_str_indexOf_I_2 : cf_D k_str_indexOf_I 2 (.iconst 0) 1 3 := ⟨by decide +kernel, rfl⟩
theorem d_str_indexOf_I_3 : cf_D k_str_indexOf_I 3 (.invokevirtual 633) 3 6 := ⟨by decide +kernel, rfl⟩
theorem d_str_indexOf_I_6 : cf_D k_str_indexOf_I 6 (.ireturn) 1 7 := ⟨by decide +kernel, rfl⟩
theorem d_str_indexOf_II_0 : cf_D k_str_indexOf_II 0 (.aload_n 0) 1 1 := ⟨by decide +kernel, rfl⟩
theorem d_str_indexOf_II_1 : cf_D k_str_indexOf_II 1 (.invokevirtual 492) 3 4 := ⟨by decide +kernel, rfl⟩
theorem d_str_indexOf_II_4 : cf_D k_str_indexOf_II 4 (.ifCond .eq 19) 3 7 := ⟨by decide +kernel, rfl⟩
theorem d_str_indexOf_II_7 : cf_D k_str_indexOf_II 7 (.aload_n 0) 1 8 := ⟨by decide +kernel, rfl⟩
theorem d_str_indexOf_II_8 : cf_D k_str_indexOf_II 8 (.getfield 9) 3 11 := ⟨by decide +kernel, rfl⟩
theorem d_str_indexOf_II_11 : cf_D k_str_indexOf_II 11 (.iload_n 1) 1 12 := ⟨by decide +kernel, rfl⟩
theorem d_str_indexOf_II_12 : cf_D k_str_indexOf_II 12 (.iload_n 2) 1 13 := ⟨by decide +kernel, rfl⟩
theorem d_str_indexOf_II_13 : cf_D k_str_indexOf_II 13 (.aload_n 0) 1 14 := ⟨by decide +kernel, rfl⟩
theorem d_str_indexOf_II_14 : cf_D k_str_indexOf_II 14 (.invokevirtual 505) 3 17 := ⟨by decide +kernel, rfl⟩
theorem d_str_indexOf_II_17 : cf_D k_str_indexOf_II 17 (.invokestatic 637) 3 20 := ⟨by decide +kernel, rfl⟩
theorem d_str_indexOf_II_20 : cf_D k_str_indexOf_II 20 (.goto 16) 3 23 := ⟨by decide +kernel, rfl⟩
theorem d_str_indexOf_II_23 : cf_D k_str_indexOf_II 23 (.aload_n 0) 1 24 := ⟨by decide +kernel, rfl⟩
theorem d_str_indexOf_II_24 : cf_D k_str_indexOf_II 24 (.getfield 9) 3 27 := ⟨by decide +kernel, rfl⟩
theorem d_str_indexOf_II_27 : cf_D k_str_indexOf_II 27 (.iload_n 1) 1 28 := ⟨by decide +kernel, rfl⟩
theorem d_str_indexOf_II_28 : cf_D k_str_indexOf_II 28 (.iload_n 2) 1 29 := ⟨by decide +kernel, rfl⟩
theorem d_str_indexOf_II_29 : cf_D k_str_indexOf_II 29 (.aload_n 0) 1 30 := ⟨by decide +kernel, rfl⟩
theorem d_str_indexOf_II_30 : cf_D k_str_indexOf_II 30 (.invokevirtual 505) 3 33 := ⟨by decide +kernel, rfl⟩
theorem d_str_indexOf_II_33 : cf_D k_str_indexOf_II 33 (.invokestatic 640) 3 36 := ⟨by decide +kernel, rfl⟩
theorem d_str_indexOf_II_36 : cf_D k_str_indexOf_II 36 (.ireturn) 1 37 := ⟨by decide +kernel, rfl⟩
theorem d_str_isLatin1_0 : cf_D k_str_isLatin1 0 (.getstatic 38) 3 3 := ⟨by decide +kernel, rfl⟩
theorem d_str_isLatin1_3 : cf_D k_str_isLatin1 3 (.ifCond .eq 14) 3 6 := ⟨by decide +kernel, rfl⟩
theorem d_str_isLatin1_6 : cf_D k_str_isLatin1 6 (.aload_n 0) 1 7 := ⟨by decide +kernel, rfl⟩
theorem d_str_isLatin1_7 : cf_D k_str_isLatin1 7 (.getfield 15) 3 10 := ⟨by decide +kernel, rfl⟩
theorem d_str_isLatin1_10 : cf_D k_str_isLatin1 10 (.ifCond .ne 7) 3 13 := ⟨by decide +kernel, rfl⟩
theorem d_str_isLatin1_13 : cf_D k_str_isLatin1 13 (.iconst 1) 1 14 := ⟨by decide +kernel, rfl⟩
theorem d_str_isLatin1_14 : cf_D k_str_isLatin1 14 (.goto 4) 3 17 := ⟨by decide +kernel, rfl⟩
theorem d_str_isLatin1_17 : cf_D k_str_isLatin1 17 (.iconst 0) 1 18 := ⟨by decide +kernel, rfl⟩
theorem d_str_isLatin1_18 : cf_D k_str_isLatin1 18 (.ireturn) 1 19 := ⟨by decide +kernel, rfl⟩
theorem d_str_length_0 : cf_D k_str_length 0 (.aload_n 0) 1 1 := ⟨by decide +kernel, rfl⟩
theorem d_str_length_1 : cf_D k_str_length 1 (.getfield 9) 3 4 := ⟨by decide +kernel, rfl⟩
theorem d_str_length_4 : cf_D k_str_length 4 (.arraylength) 1 5 := ⟨by decide +kernel, rfl⟩
theorem d_str_length_5 : cf_D k_str_length 5 (.aload_n 0) 1 6 := ⟨by decide +kernel, rfl⟩
theorem d_str_length_6 : cf_D k_str_length 6 (.invokevirtual 335) 3 9 := ⟨by decide +kernel, rfl⟩
theorem d_str_length_9 : cf_D k_str_length 9 (.ishr) 1 10 := ⟨by decide +kernel, rfl⟩
theorem d_str_length_10 : cf_D k_str_length 10 (.ireturn) 1 11 := ⟨by decide +kernel, rfl⟩
theorem d_str_coder_0 : cf_D k_str_coder 0 (.getstatic 38) 3 3 := ⟨by decide +kernel, rfl⟩
theorem d_str_coder_3 : cf_D k_str_coder 3 (.ifCond .eq 10) 3 6 := ⟨by decide +kernel, rfl⟩
theorem d_str_coder_6 : cf_D k_str_coder 6 (.aload_n 0) 1 7 := ⟨by decide +kernel, rfl⟩
theorem d_str_coder_7 : cf_D k_str_coder 7 (.getfield 15) 3 10 := ⟨by decide +kernel, rfl⟩
theorem d_str_coder_10 : cf_D k_str_coder 10 (.goto 4) 3 13 := ⟨by decide +kernel, rfl⟩
theorem d_str_coder_13 : cf_D k_str_coder 13 (.iconst 1) 1 14 := ⟨by decide +kernel, rfl⟩
theorem d_str_coder_14 : cf_D k_str_coder 14 (.ireturn) 1 15 := ⟨by decide +kernel, rfl⟩
theorem d_sla_indexOf_0 : cf_D k_sla_indexOf 0 (.iload_n 1) 1 1 := ⟨by decide +kernel, rfl⟩
theorem d_sla_indexOf_1 : cf_D k_sla_indexOf 1 (.invokestatic 88) 3 4 := ⟨by decide +kernel, rfl⟩
theorem d_sla_indexOf_4 : cf_D k_sla_indexOf 4 (.ifCond .ne 5) 3 7 := ⟨by decide +kernel, rfl⟩
theorem d_sla_indexOf_7 : cf_D k_sla_indexOf 7 (.iconst (-1)) 1 8 := ⟨by decide +kernel, rfl⟩
theorem d_sla_indexOf_8 : cf_D k_sla_indexOf 8 (.ireturn) 1 9 := ⟨by decide +kernel, rfl⟩
theorem d_sla_indexOf_9 : cf_D k_sla_indexOf 9 (.iload_n 2) 1 10 := ⟨by decide +kernel, rfl⟩
theorem d_sla_indexOf_10 : cf_D k_sla_indexOf 10 (.iconst 0) 1 11 := ⟨by decide +kernel, rfl⟩
theorem d_sla_indexOf_11 : cf_D k_sla_indexOf 11 (.invokestatic 92) 3 14 := ⟨by decide +kernel, rfl⟩
theorem d_sla_indexOf_14 : cf_D k_sla_indexOf 14 (.istore_n 2) 1 15 := ⟨by decide +kernel, rfl⟩
theorem d_sla_indexOf_15 : cf_D k_sla_indexOf 15 (.iload_n 3) 1 16 := ⟨by decide +kernel, rfl⟩
theorem d_sla_indexOf_16 : cf_D k_sla_indexOf 16 (.aload_n 0) 1 17 := ⟨by decide +kernel, rfl⟩
theorem d_sla_indexOf_17 : cf_D k_sla_indexOf 17 (.arraylength) 1 18 := ⟨by decide +kernel, rfl⟩
theorem d_sla_indexOf_18 : cf_D k_sla_indexOf 18 (.invokestatic 38) 3 21 := ⟨by decide +kernel, rfl⟩
theorem d_sla_indexOf_21 : cf_D k_sla_indexOf 21 (.istore_n 3) 1 22 := ⟨by decide +kernel, rfl⟩
theorem d_sla_indexOf_22 : cf_D k_sla_indexOf 22 (.iload_n 2) 1 23 := ⟨by decide +kernel, rfl⟩
theorem d_sla_indexOf_23 : cf_D k_sla_indexOf 23 (.iload_n 3) 1 24 := ⟨by decide +kernel, rfl⟩
theorem d_sla_indexOf_24 : cf_D k_sla_indexOf 24 (.if_icmp .lt 5) 3 27 := ⟨by decide +kernel, rfl⟩
theorem d_sla_indexOf_27 : cf_D k_sla_indexOf 27 (.iconst (-1)) 1 28 := ⟨by decide +kernel, rfl⟩
theorem d_sla_indexOf_28 : cf_D k_sla_indexOf 28 (.ireturn) 1 29 := ⟨by decide +kernel, rfl⟩
theorem d_sla_indexOf_29 : cf_D k_sla_indexOf 29 (.aload_n 0) 1 30 := ⟨by decide +kernel, rfl⟩
theorem d_sla_indexOf_30 : cf_D k_sla_indexOf 30 (.iload_n 1) 1 31 := ⟨by decide +kernel, rfl⟩
theorem d_sla_indexOf_31 : cf_D k_sla_indexOf 31 (.iload_n 2) 1 32 := ⟨by decide +kernel, rfl⟩
theorem d_sla_indexOf_32 : cf_D k_sla_indexOf 32 (.iload_n 3) 1 33 := ⟨by decide +kernel, rfl⟩
theorem d_sla_indexOf_33 : cf_D k_sla_indexOf 33 (.invokestatic 95) 3 36 := ⟨by decide +kernel, rfl⟩
theorem d_sla_indexOf_36 : cf_D k_sla_indexOf 36 (.ireturn) 1 37 := ⟨by decide +kernel, rfl⟩
theorem d_sla_canEncode_0 : cf_D k_sla_canEncode 0 (.iload_n 0) 1 1 := ⟨by decide +kernel, rfl⟩
theorem d_sla_canEncode_1 : cf_D k_sla_canEncode 1 (.ifCond .lt 14) 3 4 := ⟨by decide +kernel, rfl⟩
theorem d_sla_canEncode_4 : cf_D k_sla_canEncode 4 (.iload_n 0) 1 5 := ⟨by decide +kernel, rfl⟩
theorem d_sla_canEncode_5 : cf_D k_sla_canEncode 5 (.sipush 255) 3 8 := ⟨by decide +kernel, rfl⟩
theorem d_sla_canEncode_8 : cf_D k_sla_canEncode 8 (.if_icmp .gt 7) 3 11 := ⟨by decide +kernel, rfl⟩
theorem d_sla_canEncode_11 : cf_D k_sla_canEncode 11 (.iconst 1) 1 12 := ⟨by decide +kernel, rfl⟩
theorem d_sla_canEncode_12 : cf_D k_sla_canEncode 12 (.goto 4) 3 15 := ⟨by decide +kernel, rfl⟩
theorem d_sla_canEncode_15 : cf_D k_sla_canEncode 15 (.iconst 0) 1 16 := ⟨by decide +kernel, rfl⟩
theorem d_sla_canEncode_16 : cf_D k_sla_canEncode 16 (.ireturn) 1 17 := ⟨by decide +kernel, rfl⟩
theorem d_math_max_0 : cf_D k_math_max 0 (.iload_n 0) 1 1 := ⟨by decide +kernel, rfl⟩
theorem d_math_max_1 : cf_D k_math_max 1 (.iload_n 1) 1 2 := ⟨by decide +kernel, rfl⟩
theorem d_math_max_2 : cf_D k_math_max 2 (.if_icmp .lt 7) 3 5 := ⟨by decide +kernel, rfl⟩
theorem d_math_max_5 : cf_D k_math_max 5 (.iload_n 0) 1 6 := ⟨by decide +kernel, rfl⟩
theorem d_math_max_6 : cf_D k_math_max 6 (.goto 4) 3 9 := ⟨by decide +kernel, rfl⟩
theorem d_math_max_9 : cf_D k_math_max 9 (.iload_n 1) 1 10 := ⟨by decide +kernel, rfl⟩
theorem d_math_max_10 : cf_D k_math_max 10 (.ireturn) 1 11 := ⟨by decide +kernel, rfl⟩
theorem d_sla_indexOfChar_0 : cf_D k_sla_indexOfChar 0 (.iload_n 1) 1 1 := ⟨by decide +kernel, rfl⟩
theorem d_sla_indexOfChar_1 : cf_D k_sla_indexOfChar 1 (.i2b) 1 2 := ⟨by decide +kernel, rfl⟩
theorem d_sla_indexOfChar_2 : cf_D k_sla_indexOfChar 2 (.istore 4) 2 4 := ⟨by decide +kernel, rfl⟩
theorem d_sla_indexOfChar_4 : cf_D k_sla_indexOfChar 4 (.iload_n 2) 1 5 := ⟨by decide +kernel, rfl⟩
theorem d_sla_indexOfChar_5 : cf_D k_sla_indexOfChar 5 (.istore 5) 2 7 := ⟨by decide +kernel, rfl⟩
theorem d_sla_indexOfChar_7 : cf_D k_sla_indexOfChar 7 (.iload 5) 2 9 := ⟨by decide +kernel, rfl⟩
theorem d_sla_indexOfChar_9 : cf_D k_sla_indexOfChar 9 (.iload_n 3) 1 10 := ⟨by decide +kernel, rfl⟩
theorem d_sla_indexOfChar_10 : cf_D k_sla_indexOfChar 10 (.if_icmp .ge 21) 3 13 := ⟨by decide +kernel, rfl⟩
theorem d_sla_indexOfChar_13 : cf_D k_sla_indexOfChar 13 (.aload_n 0) 1 14 := ⟨by decide +kernel, rfl⟩
theorem d_sla_indexOfChar_14 : cf_D k_sla_indexOfChar 14 (.iload 5) 2 16 := ⟨by decide +kernel, rfl⟩
theorem d_sla_indexOfChar_16 : cf_D k_sla_indexOfChar 16 (.baload) 1 17 := ⟨by decide +kernel, rfl⟩
theorem d_sla_indexOfChar_17 : cf_D k_sla_indexOfChar 17 (.iload 4) 2 19 := ⟨by decide +kernel, rfl⟩
theorem d_sla_indexOfChar_19 : cf_D k_sla_indexOfChar 19 (.if_icmp .ne 6) 3 22 := ⟨by decide +kernel, rfl⟩
theorem d_sla_indexOfChar_22 : cf_D k_sla_indexOfChar 22 (.iload 5) 2 24 := ⟨by decide +kernel, rfl⟩
theorem d_sla_indexOfChar_24 : cf_D k_sla_indexOfChar 24 (.ireturn) 1 25 := ⟨by decide +kernel, rfl⟩
theorem d_sla_indexOfChar_25 : cf_D k_sla_indexOfChar 25 (.iinc 5 1) 3 28 := ⟨by decide +kernel, rfl⟩
theorem d_sla_indexOfChar_28 : cf_D k_sla_indexOfChar 28 (.goto (-21)) 3 31 := ⟨by decide +kernel, rfl⟩
theorem d_sla_indexOfChar_31 : cf_D k_sla_indexOfChar 31 (.iconst (-1)) 1 32 := ⟨by decide +kernel, rfl⟩
theorem d_sla_indexOfChar_32 : cf_D k_sla_indexOfChar 32 (.ireturn) 1 33 := ⟨by decide +kernel, rfl⟩
theorem d_str_checkBoundsBeginEnd_0 : cf_D k_str_checkBoundsBeginEnd 0 (.iload_n 0) 1 1 := ⟨by decide +kernel, rfl⟩
theorem d_str_checkBoundsBeginEnd_1 : cf_D k_str_checkBoundsBeginEnd 1 (.iload_n 1) 1 2 := ⟨by decide +kernel, rfl⟩
theorem d_str_checkBoundsBeginEnd_2 : cf_D k_str_checkBoundsBeginEnd 2 (.iload_n 2) 1 3 := ⟨by decide +kernel, rfl⟩
theorem d_str_checkBoundsBeginEnd_3 : cf_D k_str_checkBoundsBeginEnd 3 (.getstatic 1053) 3 6 := ⟨by decide +kernel, rfl⟩
theorem d_str_checkBoundsBeginEnd_6 : cf_D k_str_checkBoundsBeginEnd 6 (.invokestatic 1062) 3 9 := ⟨by decide +kernel, rfl⟩
theorem d_str_checkBoundsBeginEnd_9 : cf_D k_str_checkBoundsBeginEnd 9 (.pop) 1 10 := ⟨by decide +kernel, rfl⟩
theorem d_str_checkBoundsBeginEnd_10 : cf_D k_str_checkBoundsBeginEnd 10 (.return_) 1 11 := ⟨by decide +kernel, rfl⟩
theorem d_pre_checkFromToIndex_0 : cf_D k_pre_checkFromToIndex 0 (.iload_n 0) 1 1 := ⟨by decide +kernel, rfl⟩
theorem d_pre_checkFromToIndex_1 : cf_D k_pre_checkFromToIndex 1 (.ifCond .lt 13) 3 4 := ⟨by decide +kernel, rfl⟩
theorem d_pre_checkFromToIndex_4 : cf_D k_pre_checkFromToIndex 4 (.iload_n 0) 1 5 := ⟨by decide +kernel, rfl⟩
theorem d_pre_checkFromToIndex_5 : cf_D k_pre_checkFromToIndex 5 (.iload_n 1) 1 6 := ⟨by decide +kernel, rfl⟩
theorem d_pre_checkFromToIndex_6 : cf_D k_pre_checkFromToIndex 6 (.if_icmp .gt 8) 3 9 := ⟨by decide +kernel, rfl⟩
theorem d_pre_checkFromToIndex_9 : cf_D k_pre_checkFromToIndex 9 (.iload_n 1) 1 10 := ⟨by decide +kernel, rfl⟩
theorem d_pre_checkFromToIndex_10 : cf_D k_pre_checkFromToIndex 10 (.iload_n 2) 1 11 := ⟨by decide +kernel, rfl⟩
theorem d_pre_checkFromToIndex_11 : cf_D k_pre_checkFromToIndex 11 (.if_icmp .le 11) 3 14 := ⟨by decide +kernel, rfl⟩
theorem d_pre_checkFromToIndex_14 : cf_D k_pre_checkFromToIndex 14 (.aload_n 3) 1 15 := ⟨by decide +kernel, rfl⟩
theorem d_pre_checkFromToIndex_15 : cf_D k_pre_checkFromToIndex 15 (.iload_n 0) 1 16 := ⟨by decide +kernel, rfl⟩
theorem d_pre_checkFromToIndex_16 : cf_D k_pre_checkFromToIndex 16 (.iload_n 1) 1 17 := ⟨by decide +kernel, rfl⟩
theorem d_pre_checkFromToIndex_17 : cf_D k_pre_checkFromToIndex 17 (.iload_n 2) 1 18 := ⟨by decide +kernel, rfl⟩
theorem d_pre_checkFromToIndex_18 : cf_D k_pre_checkFromToIndex 18 (.invokestatic 99) 3 21 := ⟨by decide +kernel, rfl⟩
theorem d_pre_checkFromToIndex_21 : cf_D k_pre_checkFromToIndex 21 (.athrow) 1 22 := ⟨by decide +kernel, rfl⟩
theorem d_pre_checkFromToIndex_22 : cf_D k_pre_checkFromToIndex 22 (.iload_n 0) 1 23 := ⟨by decide +kernel, rfl⟩
theorem d_pre_checkFromToIndex_23 : cf_D k_pre_checkFromToIndex 23 (.ireturn) 1 24 := ⟨by decide +kernel, rfl⟩
theorem d_scn_scanCondition_0 : cf_D k_scn_scanCondition 0 (.aload_n 0) 1 1 := ⟨by decide +kernel, rfl⟩
theorem d_scn_scanCondition_1 : cf_D k_scn_scanCondition 1 (.iload_n 1) 1 2 := ⟨by decide +kernel, rfl⟩
theorem d_scn_scanCondition_2 : cf_D k_scn_scanCondition 2 (.iconst 1) 1 3 := ⟨by decide +kernel, rfl⟩
theorem d_scn_scanCondition_3 : cf_D k_scn_scanCondition 3 (.iadd) 1 4 := ⟨by decide +kernel, rfl⟩
theorem d_scn_scanCondition_4 : cf_D k_scn_scanCondition 4 (.invokevirtual 80) 3 7 := ⟨by decide +kernel, rfl⟩
theorem d_scn_scanCondition_7 : cf_D k_scn_scanCondition 7 (.istore_n 2) 1 8 := ⟨by decide +kernel, rfl⟩
theorem d_scn_scanCondition_8 : cf_D k_scn_scanCondition 8 (.iload_n 2) 1 9 := ⟨by decide +kernel, rfl⟩
theorem d_scn_scanCondition_9 : cf_D k_scn_scanCondition 9 (.ifCond .ne 5) 3 12 := ⟨by decide +kernel, rfl⟩
theorem d_scn_scanCondition_12 : cf_D k_scn_scanCondition 12 (.iconst 0) 1 13 := ⟨by decide +kernel, rfl⟩
theorem d_scn_scanCondition_13 : cf_D k_scn_scanCondition 13 (.ireturn) 1 14 := ⟨by decide +kernel, rfl⟩
theorem d_scn_scanCondition_14 : cf_D k_scn_scanCondition 14 (.iload_n 2) 1 15 := ⟨by decide +kernel, rfl⟩
theorem d_scn_scanCondition_15 : cf_D k_scn_scanCondition 15 (.iconst 1) 1 16 := ⟨by decide +kernel, rfl⟩
theorem d_scn_scanCondition_16 : cf_D k_scn_scanCondition 16 (.if_icmp .eq 13) 3 19 := ⟨by decide +kernel, rfl⟩
theorem d_scn_scanCondition_19 : cf_D k_scn_scanCondition 19 (.iload_n 2) 1 20 := ⟨by decide +kernel, rfl⟩
theorem d_scn_scanCondition_20 : cf_D k_scn_scanCondition 20 (.iconst 2) 1 21 := ⟨by decide +kernel, rfl⟩
theorem d_scn_scanCondition_21 : cf_D k_scn_scanCondition 21 (.if_icmp .eq 8) 3 24 := ⟨by decide +kernel, rfl⟩
theorem d_scn_scanCondition_24 : cf_D k_scn_scanCondition 24 (.iload_n 2) 1 25 := ⟨by decide +kernel, rfl⟩
theorem d_scn_scanCondition_25 : cf_D k_scn_scanCondition 25 (.iconst 4) 1 26 := ⟨by decide +kernel, rfl⟩
theorem d_scn_scanCondition_26 : cf_D k_scn_scanCondition 26 (.if_icmp .ne 7) 3 29 := ⟨by decide +kernel, rfl⟩
theorem d_scn_scanCondition_29 : cf_D k_scn_scanCondition 29 (.iconst 1) 1 30 := ⟨by decide +kernel, rfl⟩
theorem d_scn_scanCondition_30 : cf_D k_scn_scanCondition 30 (.goto 4) 3 33 := ⟨by decide +kernel, rfl⟩
theorem d_scn_scanCondition_33 : cf_D k_scn_scanCondition 33 (.iconst 0) 1 34 := ⟨by decide +kernel, rfl⟩
theorem d_scn_scanCondition_34 : cf_D k_scn_scanCondition 34 (.istore_n 3) 1 35 := ⟨by decide +kernel, rfl⟩
theorem d_scn_scanCondition_35 : cf_D k_scn_scanCondition 35 (.iload_n 1) 1 36 := ⟨by decide +kernel, rfl⟩
theorem d_scn_scanCondition_36 : cf_D k_scn_scanCondition 36 (.iload_n 3) 1 37 := ⟨by decide +kernel, rfl⟩
theorem d_scn_scanCondition_37 : cf_D k_scn_scanCondition 37 (.ifCond .eq 7) 3 40 := ⟨by decide +kernel, rfl⟩
theorem d_scn_scanCondition_40 : cf_D k_scn_scanCondition 40 (.iconst 2) 1 41 := ⟨by decide +kernel, rfl⟩
theorem d_scn_scanCondition_41 : cf_D k_scn_scanCondition 41 (.goto 4) 3 44 := ⟨by decide +kernel, rfl⟩
theorem d_scn_scanCondition_44 : cf_D k_scn_scanCondition 44 (.iconst 3) 1 45 := ⟨by decide +kernel, rfl⟩
theorem d_scn_scanCondition_45 : cf_D k_scn_scanCondition 45 (.iadd) 1 46 := ⟨by decide +kernel, rfl⟩
theorem d_scn_scanCondition_46 : cf_D k_scn_scanCondition 46 (.istore 4) 2 48 := ⟨by decide +kernel, rfl⟩
theorem d_scn_scanCondition_48 : cf_D k_scn_scanCondition 48 (.aload_n 0) 1 49 := ⟨by decide +kernel, rfl⟩
theorem d_scn_scanCondition_49 : cf_D k_scn_scanCondition 49 (.iload 4) 2 51 := ⟨by decide +kernel, rfl⟩
theorem d_scn_scanCondition_51 : cf_D k_scn_scanCondition 51 (.invokevirtual 38) 3 54 := ⟨by decide +kernel, rfl⟩
theorem d_scn_scanCondition_54 : cf_D k_scn_scanCondition 54 (.bipush 45) 2 56 := ⟨by decide +kernel, rfl⟩
theorem d_scn_scanCondition_56 : cf_D k_scn_scanCondition 56 (.if_icmp .ne 7) 3 59 := ⟨by decide +kernel, rfl⟩
theorem d_scn_scanCondition_59 : cf_D k_scn_scanCondition 59 (.iconst 1) 1 60 := ⟨by decide +kernel, rfl⟩
theorem d_scn_scanCondition_60 : cf_D k_scn_scanCondition 60 (.goto 4) 3 63 := ⟨by decide +kernel, rfl⟩
theorem d_scn_scanCondition_63 : cf_D k_scn_scanCondition 63 (.iconst 0) 1 64 := ⟨by decide +kernel, rfl⟩
theorem d_scn_scanCondition_64 : cf_D k_scn_scanCondition 64 (.istore 5) 2 66 := ⟨by decide +kernel, rfl⟩
theorem d_scn_scanCondition_66 : cf_D k_scn_scanCondition 66 (.iload 5) 2 68 := ⟨by decide +kernel, rfl⟩
theorem d_scn_scanCondition_68 : cf_D k_scn_scanCondition 68 (.ifCond .eq 6) 3 71 := ⟨by decide +kernel, rfl⟩
theorem d_scn_scanCondition_71 : cf_D k_scn_scanCondition 71 (.iinc 4 1) 3 74 := ⟨by decide +kernel, rfl⟩
theorem d_scn_scanCondition_74 : cf_D k_scn_scanCondition 74 (.iconst 0) 1 75 := ⟨by decide +kernel, rfl⟩
theorem d_scn_scanCondition_75 : cf_D k_scn_scanCondition 75 (.istore 6) 2 77 := ⟨by decide +kernel, rfl⟩
theorem d_scn_scanCondition_77 : cf_D k_scn_scanCondition 77 (.iconst 0) 1 78 := ⟨by decide +kernel, rfl⟩
theorem d_scn_scanCondition_78 : cf_D k_scn_scanCondition 78 (.istore 7) 2 80 := ⟨by decide +kernel, rfl⟩
theorem d_scn_scanCondition_80 : cf_D k_scn_scanCondition 80 (.iload 7) 2 82 := ⟨by decide +kernel, rfl⟩
theorem d_scn_scanCondition_82 : cf_D k_scn_scanCondition 82 (.bipush 6) 2 84 := ⟨by decide +kernel, rfl⟩
theorem d_scn_scanCondition_84 : cf_D k_scn_scanCondition 84 (.if_icmp .ge 45) 3 87 := ⟨by decide +kernel, rfl⟩
theorem d_scn_scanCondition_87 : cf_D k_scn_scanCondition 87 (.aload_n 0) 1 88 := ⟨by decide +kernel, rfl⟩
theorem d_scn_scanCondition_88 : cf_D k_scn_scanCondition 88 (.aload_n 0) 1 89 := ⟨by decide +kernel, rfl⟩
theorem d_scn_scanCondition_89 : cf_D k_scn_scanCondition 89 (.iload 4) 2 91 := ⟨by decide +kernel, rfl⟩
theorem d_scn_scanCondition_91 : cf_D k_scn_scanCondition 91 (.iload 7) 2 93 := ⟨by decide +kernel, rfl⟩
theorem d_scn_scanCondition_93 : cf_D k_scn_scanCondition 93 (.iadd) 1 94 := ⟨by decide +kernel, rfl⟩
theorem d_scn_scanCondition_94 : cf_D k_scn_scanCondition 94 (.invokevirtual 38) 3 97 := ⟨by decide +kernel, rfl⟩
theorem d_scn_scanCondition_97 : cf_D k_scn_scanCondition 97 (.invokevirtual 83) 3 100 := ⟨by decide +kernel, rfl⟩
theorem d_scn_scanCondition_100 : cf_D k_scn_scanCondition 100 (.ifCond .eq 29) 3 103 := ⟨by decide +kernel, rfl⟩
theorem d_scn_scanCondition_103 : cf_D k_scn_scanCondition 103 (.iload 6) 2 105 := ⟨by decide +kernel, rfl⟩
theorem d_scn_scanCondition_105 : cf_D k_scn_scanCondition 105 (.bipush 10) 2 107 := ⟨by decide +kernel, rfl⟩
theorem d_scn_scanCondition_107 : cf_D k_scn_scanCondition 107 (.imul) 1 108 := ⟨by decide +kernel, rfl⟩
theorem d_scn_scanCondition_108 : cf_D k_scn_scanCondition 108 (.aload_n 0) 1 109 := ⟨by decide +kernel, rfl⟩
theorem d_scn_scanCondition_109 : cf_D k_scn_scanCondition 109 (.iload 4) 2 111 := ⟨by decide +kernel, rfl⟩
theorem d_scn_scanCondition_111 : cf_D k_scn_scanCondition 111 (.iload 7) 2 113 := ⟨by decide +kernel, rfl⟩
theorem d_scn_scanCondition_113 : cf_D k_scn_scanCondition 113 (.iadd) 1 114 := ⟨by decide +kernel, rfl⟩
theorem d_scn_scanCondition_114 : cf_D k_scn_scanCondition 114 (.invokevirtual 38) 3 117 := ⟨by decide +kernel, rfl⟩
theorem d_scn_scanCondition_117 : cf_D k_scn_scanCondition 117 (.bipush 48) 2 119 := ⟨by decide +kernel, rfl⟩
theorem d_scn_scanCondition_119 : cf_D k_scn_scanCondition 119 (.isub) 1 120 := ⟨by decide +kernel, rfl⟩
theorem d_scn_scanCondition_120 : cf_D k_scn_scanCondition 120 (.iadd) 1 121 := ⟨by decide +kernel, rfl⟩
theorem d_scn_scanCondition_121 : cf_D k_scn_scanCondition 121 (.istore 6) 2 123 := ⟨by decide +kernel, rfl⟩
theorem d_scn_scanCondition_123 : cf_D k_scn_scanCondition 123 (.iinc 7 1) 3 126 := ⟨by decide +kernel, rfl⟩
theorem d_scn_scanCondition_126 : cf_D k_scn_scanCondition 126 (.goto (-46)) 3 129 := ⟨by decide +kernel, rfl⟩
theorem d_scn_scanCondition_129 : cf_D k_scn_scanCondition 129 (.iload 7) 2 131 := ⟨by decide +kernel, rfl⟩
theorem d_scn_scanCondition_131 : cf_D k_scn_scanCondition 131 (.ifCond .eq 17) 3 134 := ⟨by decide +kernel, rfl⟩
theorem d_scn_scanCondition_134 : cf_D k_scn_scanCondition 134 (.aload_n 0) 1 135 := ⟨by decide +kernel, rfl⟩
theorem d_scn_scanCondition_135 : cf_D k_scn_scanCondition 135 (.iload 4) 2 137 := ⟨by decide +kernel, rfl⟩
theorem d_scn_scanCondition_137 : cf_D k_scn_scanCondition 137 (.iload 7) 2 139 := ⟨by decide +kernel, rfl⟩
theorem d_scn_scanCondition_139 : cf_D k_scn_scanCondition 139 (.iadd) 1 140 := ⟨by decide +kernel, rfl⟩
theorem d_scn_scanCondition_140 : cf_D k_scn_scanCondition 140 (.invokevirtual 38) 3 143 := ⟨by decide +kernel, rfl⟩
theorem d_scn_scanCondition_143 : cf_D k_scn_scanCondition 143 (.bipush 93) 2 145 := ⟨by decide +kernel, rfl⟩
theorem d_scn_scanCondition_145 : cf_D k_scn_scanCondition 145 (.if_icmp .eq 5) 3 148 := ⟨by decide +kernel, rfl⟩
theorem d_scn_scanCondition_148 : cf_D k_scn_scanCondition 148 (.iconst 0) 1 149 := ⟨by decide +kernel, rfl⟩
theorem d_scn_scanCondition_149 : cf_D k_scn_scanCondition 149 (.ireturn) 1 150 := ⟨by decide +kernel, rfl⟩
theorem d_scn_scanCondition_150 : cf_D k_scn_scanCondition 150 (.aload_n 0) 1 151 := ⟨by decide +kernel, rfl⟩
theorem d_scn_scanCondition_151 : cf_D k_scn_scanCondition 151 (.getfield 9) 3 154 := ⟨by decide +kernel, rfl⟩
theorem d_scn_scanCondition_154 : cf_D k_scn_scanCondition 154 (.bipush 7) 2 156 := ⟨by decide +kernel, rfl⟩
theorem d_scn_scanCondition_156 : cf_D k_scn_scanCondition 156 (.iload 5) 2 158 := ⟨by decide +kernel, rfl⟩
theorem d_scn_scanCondition_158 : cf_D k_scn_scanCondition 158 (.ifCond .eq 9) 3 161 := ⟨by decide +kernel, rfl⟩
theorem d_scn_scanCondition_161 : cf_D k_scn_scanCondition 161 (.iload 6) 2 163 := ⟨by decide +kernel, rfl⟩
theorem d_scn_scanCondition_163 : cf_D k_scn_scanCondition 163 (.ineg) 1 164 := ⟨by decide +kernel, rfl⟩
theorem d_scn_scanCondition_164 : cf_D k_scn_scanCondition 164 (.goto 5) 3 167 := ⟨by decide +kernel, rfl⟩
theorem d_scn_scanCondition_167 : cf_D k_scn_scanCondition 167 (.iload 6) 2 169 := ⟨by decide +kernel, rfl⟩
theorem d_scn_scanCondition_169 : cf_D k_scn_scanCondition 169 (.iload_n 2) 1 170 := ⟨by decide +kernel, rfl⟩
theorem d_scn_scanCondition_170 : cf_D k_scn_scanCondition 170 (.invokevirtual 71) 3 173 := ⟨by decide +kernel, rfl⟩
theorem d_scn_scanCondition_173 : cf_D k_scn_scanCondition 173 (.iload 4) 2 175 := ⟨by decide +kernel, rfl⟩
theorem d_scn_scanCondition_175 : cf_D k_scn_scanCondition 175 (.iload 7) 2 177 := ⟨by decide +kernel, rfl⟩
theorem d_scn_scanCondition_177 : cf_D k_scn_scanCondition 177 (.iadd) 1 178 := ⟨by decide +kernel, rfl⟩
theorem d_scn_scanCondition_178 : cf_D k_scn_scanCondition 178 (.iconst 1) 1 179 := ⟨by decide +kernel, rfl⟩
theorem d_scn_scanCondition_179 : cf_D k_scn_scanCondition 179 (.iadd) 1 180 := ⟨by decide +kernel, rfl⟩
theorem d_scn_scanCondition_180 : cf_D k_scn_scanCondition 180 (.iload_n 1) 1 181 := ⟨by decide +kernel, rfl⟩
theorem d_scn_scanCondition_181 : cf_D k_scn_scanCondition 181 (.isub) 1 182 := ⟨by decide +kernel, rfl⟩
theorem d_scn_scanCondition_182 : cf_D k_scn_scanCondition 182 (.ireturn) 1 183 := ⟨by decide +kernel, rfl⟩
theorem d_scn_testAt_0 : cf_D k_scn_testAt 0 (.aload_n 0) 1 1 := ⟨by decide +kernel, rfl⟩
theorem d_scn_testAt_1 : cf_D k_scn_testAt 1 (.iload_n 1) 1 2 := ⟨by decide +kernel, rfl⟩
theorem d_scn_testAt_2 : cf_D k_scn_testAt 2 (.invokevirtual 38) 3 5 := ⟨by decide +kernel, rfl⟩
theorem d_scn_testAt_5 : cf_D k_scn_testAt 5 (.istore_n 2) 1 6 := ⟨by decide +kernel, rfl⟩
theorem d_scn_testAt_6 : cf_D k_scn_testAt 6 (.aload_n 0) 1 7 := ⟨by decide +kernel, rfl⟩
theorem d_scn_testAt_7 : cf_D k_scn_testAt 7 (.iload_n 1) 1 8 := ⟨by decide +kernel, rfl⟩
theorem d_scn_testAt_8 : cf_D k_scn_testAt 8 (.iconst 1) 1 9 := ⟨by decide +kernel, rfl⟩
theorem d_scn_testAt_9 : cf_D k_scn_testAt 9 (.iadd) 1 10 := ⟨by decide +kernel, rfl⟩
theorem d_scn_testAt_10 : cf_D k_scn_testAt 10 (.invokevirtual 38) 3 13 := ⟨by decide +kernel, rfl⟩
theorem d_scn_testAt_13 : cf_D k_scn_testAt 13 (.istore_n 3) 1 14 := ⟨by decide +kernel, rfl⟩
theorem d_scn_testAt_14 : cf_D k_scn_testAt 14 (.iload_n 2) 1 15 := ⟨by decide +kernel, rfl⟩
theorem d_scn_testAt_15 : cf_D k_scn_testAt 15 (.bipush 61) 2 17 := ⟨by decide +kernel, rfl⟩
theorem d_scn_testAt_17 : cf_D k_scn_testAt 17 (.if_icmp .ne 5) 3 20 := ⟨by decide +kernel, rfl⟩
theorem d_scn_testAt_20 : cf_D k_scn_testAt 20 (.iconst 2) 1 21 := ⟨by decide +kernel, rfl⟩
theorem d_scn_testAt_21 : cf_D k_scn_testAt 21 (.ireturn) 1 22 := ⟨by decide +kernel, rfl⟩
theorem d_scn_testAt_22 : cf_D k_scn_testAt 22 (.iload_n 2) 1 23 := ⟨by decide +kernel, rfl⟩
theorem d_scn_testAt_23 : cf_D k_scn_testAt 23 (.bipush 62) 2 25 := ⟨by decide +kernel, rfl⟩
theorem d_scn_testAt_25 : cf_D k_scn_testAt 25 (.if_icmp .ne 16) 3 28 := ⟨by decide +kernel, rfl⟩
theorem d_scn_testAt_28 : cf_D k_scn_testAt 28 (.iload_n 3) 1 29 := ⟨by decide +kernel, rfl⟩
theorem d_scn_testAt_29 : cf_D k_scn_testAt 29 (.bipush 61) 2 31 := ⟨by decide +kernel, rfl⟩
theorem d_scn_testAt_31 : cf_D k_scn_testAt 31 (.if_icmp .ne 8) 3 34 := ⟨by decide +kernel, rfl⟩
theorem d_scn_testAt_34 : cf_D k_scn_testAt 34 (.bipush 6) 2 36 := ⟨by decide +kernel, rfl⟩
theorem d_scn_testAt_36 : cf_D k_scn_testAt 36 (.goto 4) 3 39 := ⟨by decide +kernel, rfl⟩
theorem d_scn_testAt_39 : cf_D k_scn_testAt 39 (.iconst 4) 1 40 := ⟨by decide +kernel, rfl⟩
theorem d_scn_testAt_40 : cf_D k_scn_testAt 40 (.ireturn) 1 41 := ⟨by decide +kernel, rfl⟩
theorem d_scn_testAt_41 : cf_D k_scn_testAt 41 (.iload_n 2) 1 42 := ⟨by decide +kernel, rfl⟩
theorem d_scn_testAt_42 : cf_D k_scn_testAt 42 (.bipush 60) 2 44 := ⟨by decide +kernel, rfl⟩
theorem d_scn_testAt_44 : cf_D k_scn_testAt 44 (.if_icmp .eq 5) 3 47 := ⟨by decide +kernel, rfl⟩
theorem d_scn_testAt_47 : cf_D k_scn_testAt 47 (.iconst 0) 1 48 := ⟨by decide +kernel, rfl⟩
theorem d_scn_testAt_48 : cf_D k_scn_testAt 48 (.ireturn) 1 49 := ⟨by decide +kernel, rfl⟩
theorem d_scn_testAt_49 : cf_D k_scn_testAt 49 (.iload_n 3) 1 50 := ⟨by decide +kernel, rfl⟩
theorem d_scn_testAt_50 : cf_D k_scn_testAt 50 (.bipush 61) 2 52 := ⟨by decide +kernel, rfl⟩
theorem d_scn_testAt_52 : cf_D k_scn_testAt 52 (.if_icmp .ne 5) 3 55 := ⟨by decide +kernel, rfl⟩
theorem d_scn_testAt_55 : cf_D k_scn_testAt 55 (.iconst 3) 1 56 := ⟨by decide +kernel, rfl⟩
theorem d_scn_testAt_56 : cf_D k_scn_testAt 56 (.ireturn) 1 57 := ⟨by decide +kernel, rfl⟩
theorem d_scn_testAt_57 : cf_D k_scn_testAt 57 (.iload_n 3) 1 58 := ⟨by decide +kernel, rfl⟩
theorem d_scn_testAt_58 : cf_D k_scn_testAt 58 (.bipush 62) 2 60 := ⟨by decide +kernel, rfl⟩
theorem d_scn_testAt_60 : cf_D k_scn_testAt 60 (.if_icmp .ne 7) 3 63 := ⟨by decide +kernel, rfl⟩
theorem d_scn_testAt_63 : cf_D k_scn_testAt 63 (.iconst 5) 1 64 := ⟨by decide +kernel, rfl⟩
theorem d_scn_testAt_64 : cf_D k_scn_testAt 64 (.goto 4) 3 67 := ⟨by decide +kernel, rfl⟩
theorem d_scn_testAt_67 : cf_D k_scn_testAt 67 (.iconst 1) 1 68 := ⟨by decide +kernel, rfl⟩
theorem d_scn_testAt_68 : cf_D k_scn_testAt 68 (.ireturn) 1 69 := ⟨by decide +kernel, rfl⟩
theorem d_scn_isDigit_0 : cf_D k_scn_isDigit 0 (.iload_n 1) 1 1 := ⟨by decide +kernel, rfl⟩
theorem d_scn_isDigit_1 : cf_D k_scn_isDigit 1 (.bipush 48) 2 3 := ⟨by decide +kernel, rfl⟩
theorem d_scn_isDigit_3 : cf_D k_scn_isDigit 3 (.if_icmp .lt 13) 3 6 := ⟨by decide +kernel, rfl⟩
theorem d_scn_isDigit_6 : cf_D k_scn_isDigit 6 (.iload_n 1) 1 7 := ⟨by decide +kernel, rfl⟩
theorem d_scn_isDigit_7 : cf_D k_scn_isDigit 7 (.bipush 57) 2 9 := ⟨by decide +kernel, rfl⟩
theorem d_scn_isDigit_9 : cf_D k_scn_isDigit 9 (.if_icmp .gt 7) 3 12 := ⟨by decide +kernel, rfl⟩
theorem d_scn_isDigit_12 : cf_D k_scn_isDigit 12 (.iconst 1) 1 13 := ⟨by decide +kernel, rfl⟩
theorem d_scn_isDigit_13 : cf_D k_scn_isDigit 13 (.goto 4) 3 16 := ⟨by decide +kernel, rfl⟩
theorem d_scn_isDigit_16 : cf_D k_scn_isDigit 16 (.iconst 0) 1 17 := ⟨by decide +kernel, rfl⟩
theorem d_scn_isDigit_17 : cf_D k_scn_isDigit 17 (.ireturn) 1 18 := ⟨by decide +kernel, rfl⟩
theorem d_scn_scanExponent_0 : cf_D k_scn_scanExponent 0 (.aload_n 0) 1 1 := ⟨by decide +kernel, rfl⟩
theorem d_scn_scanExponent_1 : cf_D k_scn_scanExponent 1 (.iload_n 1) 1 2 := ⟨by decide +kernel, rfl⟩
theorem d_scn_scanExponent_2 : cf_D k_scn_scanExponent 2 (.iconst 1) 1 3 := ⟨by decide +kernel, rfl⟩
theorem d_scn_scanExponent_3 : cf_D k_scn_scanExponent 3 (.iadd) 1 4 := ⟨by decide +kernel, rfl⟩
theorem d_scn_scanExponent_4 : cf_D k_scn_scanExponent 4 (.invokevirtual 38) 3 7 := ⟨by decide +kernel, rfl⟩
theorem d_scn_scanExponent_7 : cf_D k_scn_scanExponent 7 (.istore_n 2) 1 8 := ⟨by decide +kernel, rfl⟩
theorem d_scn_scanExponent_8 : cf_D k_scn_scanExponent 8 (.iload_n 2) 1 9 := ⟨by decide +kernel, rfl⟩
theorem d_scn_scanExponent_9 : cf_D k_scn_scanExponent 9 (.bipush 43) 2 11 := ⟨by decide +kernel, rfl⟩
theorem d_scn_scanExponent_11 : cf_D k_scn_scanExponent 11 (.if_icmp .eq 11) 3 14 := ⟨by decide +kernel, rfl⟩
theorem d_scn_scanExponent_14 : cf_D k_scn_scanExponent 14 (.iload_n 2) 1 15 := ⟨by decide +kernel, rfl⟩
theorem d_scn_scanExponent_15 : cf_D k_scn_scanExponent 15 (.bipush 45) 2 17 := ⟨by decide +kernel, rfl⟩
theorem d_scn_scanExponent_17 : cf_D k_scn_scanExponent 17 (.if_icmp .eq 5) 3 20 := ⟨by decide +kernel, rfl⟩
theorem d_scn_scanExponent_20 : cf_D k_scn_scanExponent 20 (.iconst 0) 1 21 := ⟨by decide +kernel, rfl⟩
theorem d_scn_scanExponent_21 : cf_D k_scn_scanExponent 21 (.ireturn) 1 22 := ⟨by decide +kernel, rfl⟩
theorem d_scn_scanExponent_22 : cf_D k_scn_scanExponent 22 (.aload_n 0) 1 23 := ⟨by decide +kernel, rfl⟩
theorem d_scn_scanExponent_23 : cf_D k_scn_scanExponent 23 (.getfield 9) 3 26 := ⟨by decide +kernel, rfl⟩
theorem d_scn_scanExponent_26 : cf_D k_scn_scanExponent 26 (.bipush 6) 2 28 := ⟨by decide +kernel, rfl⟩
theorem d_scn_scanExponent_28 : cf_D k_scn_scanExponent 28 (.iload_n 2) 1 29 := ⟨by decide +kernel, rfl⟩
theorem d_scn_scanExponent_29 : cf_D k_scn_scanExponent 29 (.iconst 0) 1 30 := ⟨by decide +kernel, rfl⟩
theorem d_scn_scanExponent_30 : cf_D k_scn_scanExponent 30 (.invokevirtual 71) 3 33 := ⟨by decide +kernel, rfl⟩
theorem d_scn_scanExponent_33 : cf_D k_scn_scanExponent 33 (.iconst 2) 1 34 := ⟨by decide +kernel, rfl⟩
theorem d_scn_scanExponent_34 : cf_D k_scn_scanExponent 34 (.ireturn) 1 35 := ⟨by decide +kernel, rfl⟩
theorem d_scn_scanMeridiem_0 : cf_D k_scn_scanMeridiem 0 (.iconst 0) 1 1 := ⟨by decide +kernel, rfl⟩
theorem d_scn_scanMeridiem_1 : cf_D k_scn_scanMeridiem 1 (.istore_n 2) 1 2 := ⟨by decide +kernel, rfl⟩
theorem d_scn_scanMeridiem_2 : cf_D k_scn_scanMeridiem 2 (.iload_n 2) 1 3 := ⟨by decide +kernel, rfl⟩
theorem d_scn_scanMeridiem_3 : cf_D k_scn_scanMeridiem 3 (.ldc 87) 2 5 := ⟨by decide +kernel, rfl⟩
theorem d_scn_scanMeridiem_5 : cf_D k_scn_scanMeridiem 5 (.invokevirtual 89) 3 8 := ⟨by decide +kernel, rfl⟩
theorem d_scn_scanMeridiem_8 : cf_D k_scn_scanMeridiem 8 (.if_icmp .ge 27) 3 11 := ⟨by decide +kernel, rfl⟩
theorem d_scn_scanMeridiem_11 : cf_D k_scn_scanMeridiem 11 (.aload_n 0) 1 12 := ⟨by decide +kernel, rfl⟩
theorem d_scn_scanMeridiem_12 : cf_D k_scn_scanMeridiem 12 (.iload_n 1) 1 13 := ⟨by decide +kernel, rfl⟩
theorem d_scn_scanMeridiem_13 : cf_D k_scn_scanMeridiem 13 (.iload_n 2) 1 14 := ⟨by decide +kernel, rfl⟩
theorem d_scn_scanMeridiem_14 : cf_D k_scn_scanMeridiem 14 (.iadd) 1 15 := ⟨by decide +kernel, rfl⟩
theorem d_scn_scanMeridiem_15 : cf_D k_scn_scanMeridiem 15 (.invokevirtual 38) 3 18 := ⟨by decide +kernel, rfl⟩
theorem d_scn_scanMeridiem_18 : cf_D k_scn_scanMeridiem 18 (.ldc 87) 2 20 := ⟨by decide +kernel, rfl⟩
theorem d_scn_scanMeridiem_20 : cf_D k_scn_scanMeridiem 20 (.iload_n 2) 1 21 := ⟨by decide +kernel, rfl⟩
theorem d_scn_scanMeridiem_21 : cf_D k_scn_scanMeridiem 21 (.invokevirtual 92) 3 24 := ⟨by decide +kernel, rfl⟩
theorem d_scn_scanMeridiem_24 : cf_D k_scn_scanMeridiem 24 (.if_icmp .eq 5) 3 27 := ⟨by decide +kernel, rfl⟩
theorem d_scn_scanMeridiem_27 : cf_D k_scn_scanMeridiem 27 (.iconst 0) 1 28 := ⟨by decide +kernel, rfl⟩
theorem d_scn_scanMeridiem_28 : cf_D k_scn_scanMeridiem 28 (.ireturn) 1 29 := ⟨by decide +kernel, rfl⟩
theorem d_scn_scanMeridiem_29 : cf_D k_scn_scanMeridiem 29 (.iinc 2 1) 3 32 := ⟨by decide +kernel, rfl⟩
theorem d_scn_scanMeridiem_32 : cf_D k_scn_scanMeridiem 32 (.goto (-30)) 3 35 := ⟨by decide +kernel, rfl⟩
theorem d_scn_scanMeridiem_35 : cf_D k_scn_scanMeridiem 35 (.aload_n 0) 1 36 := ⟨by decide +kernel, rfl⟩
theorem d_scn_scanMeridiem_36 : cf_D k_scn_scanMeridiem 36 (.getfield 9) 3 39 := ⟨by decide +kernel, rfl⟩
theorem d_scn_scanMeridiem_39 : cf_D k_scn_scanMeridiem 39 (.bipush 10) 2 41 := ⟨by decide +kernel, rfl⟩
theorem d_scn_scanMeridiem_41 : cf_D k_scn_scanMeridiem 41 (.bipush 65) 2 43 := ⟨by decide +kernel, rfl⟩
theorem d_scn_scanMeridiem_43 : cf_D k_scn_scanMeridiem 43 (.iconst 0) 1 44 := ⟨by decide +kernel, rfl⟩
theorem d_scn_scanMeridiem_44 : cf_D k_scn_scanMeridiem 44 (.invokevirtual 71) 3 47 := ⟨by decide +kernel, rfl⟩
theorem d_scn_scanMeridiem_47 : cf_D k_scn_scanMeridiem 47 (.ldc 87) 2 49 := ⟨by decide +kernel, rfl⟩
theorem d_scn_scanMeridiem_49 : cf_D k_scn_scanMeridiem 49 (.invokevirtual 89) 3 52 := ⟨by decide +kernel, rfl⟩
theorem d_scn_scanMeridiem_52 : cf_D k_scn_scanMeridiem 52 (.ireturn) 1 53 := ⟨by decide +kernel, rfl⟩
theorem d_str_charAt_0 : cf_D k_str_charAt 0 (.aload_n 0) 1 1 := ⟨by decide +kernel, rfl⟩
theorem d_str_charAt_1 : cf_D k_str_charAt 1 (.invokevirtual 492) 3 4 := ⟨by decide +kernel, rfl⟩
theorem d_str_charAt_4 : cf_D k_str_charAt 4 (.ifCond .eq 12) 3 7 := ⟨by decide +kernel, rfl⟩
theorem d_str_charAt_7 : cf_D k_str_charAt 7 (.aload_n 0) 1 8 := ⟨by decide +kernel, rfl⟩
theorem d_str_charAt_8 : cf_D k_str_charAt 8 (.getfield 9) 3 11 := ⟨by decide +kernel, rfl⟩
theorem d_str_charAt_11 : cf_D k_str_charAt 11 (.iload_n 1) 1 12 := ⟨by decide +kernel, rfl⟩
theorem d_str_charAt_12 : cf_D k_str_charAt 12 (.invokestatic 495) 3 15 := ⟨by decide +kernel, rfl⟩
theorem d_str_charAt_15 : cf_D k_str_charAt 15 (.ireturn) 1 16 := ⟨by decide +kernel, rfl⟩
theorem d_str_charAt_16 : cf_D k_str_charAt 16 (.aload_n 0) 1 17 := ⟨by decide +kernel, rfl⟩
theorem d_str_charAt_17 : cf_D k_str_charAt 17 (.getfield 9) 3 20 := ⟨by decide +kernel, rfl⟩
theorem d_str_charAt_20 : cf_D k_str_charAt 20 (.iload_n 1) 1 21 := ⟨by decide +kernel, rfl⟩
theorem d_str_charAt_21 : cf_D k_str_charAt 21 (.invokestatic 498) 3 24 := ⟨by decide +kernel, rfl⟩
theorem d_str_charAt_24 : cf_D k_str_charAt 24 (.ireturn) 1 25 := ⟨by decide +kernel, rfl⟩
theorem d_sla_charAt_0 : cf_D k_sla_charAt 0 (.iload_n 1) 1 1 := ⟨by decide +kernel, rfl⟩
theorem d_sla_charAt_1 : cf_D k_sla_charAt 1 (.aload_n 0) 1 2 := ⟨by decide +kernel, rfl⟩
theorem d_sla_charAt_2 : cf_D k_sla_charAt 2 (.arraylength) 1 3 := ⟨by decide +kernel, rfl⟩
theorem d_sla_charAt_3 : cf_D k_sla_charAt 3 (.invokestatic 9) 3 6 := ⟨by decide +kernel, rfl⟩
theorem d_sla_charAt_6 : cf_D k_sla_charAt 6 (.aload_n 0) 1 7 := ⟨by decide +kernel, rfl⟩
theorem d_sla_charAt_7 : cf_D k_sla_charAt 7 (.iload_n 1) 1 8 := ⟨by decide +kernel, rfl⟩
theorem d_sla_charAt_8 : cf_D k_sla_charAt 8 (.baload) 1 9 := ⟨by decide +kernel, rfl⟩
theorem d_sla_charAt_9 : cf_D k_sla_charAt 9 (.sipush 255) 3 12 := ⟨by decide +kernel, rfl⟩
theorem d_sla_charAt_12 : cf_D k_sla_charAt 12 (.iand) 1 13 := ⟨by decide +kernel, rfl⟩
theorem d_sla_charAt_13 : cf_D k_sla_charAt 13 (.i2c) 1 14 := ⟨by decide +kernel, rfl⟩
theorem d_sla_charAt_14 : cf_D k_sla_charAt 14 (.ireturn) 1 15 := ⟨by decide +kernel, rfl⟩
theorem d_str_checkIndex_0 : cf_D k_str_checkIndex 0 (.iload_n 0) 1 1 := ⟨by decide +kernel, rfl⟩
theorem d_str_checkIndex_1 : cf_D k_str_checkIndex 1 (.iload_n 1) 1 2 := ⟨by decide +kernel, rfl⟩
theorem d_str_checkIndex_2 : cf_D k_str_checkIndex 2 (.getstatic 1053) 3 5 := ⟨by decide +kernel, rfl⟩
theorem d_str_checkIndex_5 : cf_D k_str_checkIndex 5 (.invokestatic 1059) 3 8 := ⟨by decide +kernel, rfl⟩
theorem d_str_checkIndex_8 : cf_D k_str_checkIndex 8 (.pop) 1 9 := ⟨by decide +kernel, rfl⟩
theorem d_str_checkIndex_9 : cf_D k_str_checkIndex 9 (.return_) 1 10 := ⟨by decide +kernel, rfl⟩
theorem d_pre_checkIndex_0 : cf_D k_pre_checkIndex 0 (.iload_n 0) 1 1 := ⟨by decide +kernel, rfl⟩
theorem d_pre_checkIndex_1 : cf_D k_pre_checkIndex 1 (.ifCond .lt 8) 3 4 := ⟨by decide +kernel, rfl⟩
theorem d_pre_checkIndex_4 : cf_D k_pre_checkIndex 4 (.iload_n 0) 1 5 := ⟨by decide +kernel, rfl⟩
theorem d_pre_checkIndex_5 : cf_D k_pre_checkIndex 5 (.iload_n 1) 1 6 := ⟨by decide +kernel, rfl⟩
theorem d_pre_checkIndex_6 : cf_D k_pre_checkIndex 6 (.if_icmp .lt 10) 3 9 := ⟨by decide +kernel, rfl⟩
theorem d_pre_checkIndex_9 : cf_D k_pre_checkIndex 9 (.aload_n 2) 1 10 := ⟨by decide +kernel, rfl⟩
theorem d_pre_checkIndex_10 : cf_D k_pre_checkIndex 10 (.iload_n 0) 1 11 := ⟨by decide +kernel, rfl⟩
theorem d_pre_checkIndex_11 : cf_D k_pre_checkIndex 11 (.iload_n 1) 1 12 := ⟨by decide +kernel, rfl⟩
theorem d_pre_checkIndex_12 : cf_D k_pre_checkIndex 12 (.invokestatic 95) 3 15 := ⟨by decide +kernel, rfl⟩
theorem d_pre_checkIndex_15 : cf_D k_pre_checkIndex 15 (.athrow) 1 16 := ⟨by decide +kernel, rfl⟩
theorem d_pre_checkIndex_16 : cf_D k_pre_checkIndex 16 (.iload_n 0) 1 17 := ⟨by decide +kernel, rfl⟩
theorem d_pre_checkIndex_17 : cf_D k_pre_checkIndex 17 (.ireturn) 1 18 := ⟨by decide +kernel, rfl⟩
theorem d_scn_scanField_0 : cf_D k_scn_scanField 0 (.aload_n 0) 1 1 := ⟨by decide +kernel, rfl⟩
theorem d_scn_scanField_1 : cf_D k_scn_scanField 1 (.iload_n 1) 1 2 := ⟨by decide +kernel, rfl⟩
theorem d_scn_scanField_2 : cf_D k_scn_scanField 2 (.invokevirtual 38) 3 5 := ⟨by decide +kernel, rfl⟩
theorem d_scn_scanField_5 : cf_D k_scn_scanField 5 (.istore_n 2) 1 6 := ⟨by decide +kernel, rfl⟩
theorem d_scn_scanField_6 : cf_D k_scn_scanField 6 (.iload_n 1) 1 7 := ⟨by decide +kernel, rfl⟩
theorem d_scn_scanField_7 : cf_D k_scn_scanField 7 (.iconst 1) 1 8 := ⟨by decide +kernel, rfl⟩
theorem d_scn_scanField_8 : cf_D k_scn_scanField 8 (.iadd) 1 9 := ⟨by decide +kernel, rfl⟩
theorem d_scn_scanField_9 : cf_D k_scn_scanField 9 (.istore_n 3) 1 10 := ⟨by decide +kernel, rfl⟩
theorem d_scn_scanField_10 : cf_D k_scn_scanField 10 (.iload_n 3) 1 11 := ⟨by decide +kernel, rfl⟩
theorem d_scn_scanField_11 : cf_D k_scn_scanField 11 (.aload_n 0) 1 12 := ⟨by decide +kernel, rfl⟩
theorem d_scn_scanField_12 : cf_D k_scn_scanField 12 (.getfield 19) 3 15 := ⟨by decide +kernel, rfl⟩
theorem d_scn_scanField_15 : cf_D k_scn_scanField 15 (.if_icmp .ge 18) 3 18 := ⟨by decide +kernel, rfl⟩
theorem d_scn_scanField_18 : cf_D k_scn_scanField 18 (.aload_n 0) 1 19 := ⟨by decide +kernel, rfl⟩
theorem d_scn_scanField_19 : cf_D k_scn_scanField 19 (.iload_n 3) 1 20 := ⟨by decide +kernel, rfl⟩
theorem d_scn_scanField_20 : cf_D k_scn_scanField 20 (.invokevirtual 38) 3 23 := ⟨by decide +kernel, rfl⟩
theorem d_scn_scanField_23 : cf_D k_scn_scanField 23 (.iload_n 2) 1 24 := ⟨by decide +kernel, rfl⟩
theorem d_scn_scanField_24 : cf_D k_scn_scanField 24 (.if_icmp .ne 9) 3 27 := ⟨by decide +kernel, rfl⟩
theorem d_scn_scanField_27 : cf_D k_scn_scanField 27 (.iinc 3 1) 3 30 := ⟨by decide +kernel, rfl⟩
theorem d_scn_scanField_30 : cf_D k_scn_scanField 30 (.goto (-20)) 3 33 := ⟨by decide +kernel, rfl⟩
theorem d_scn_scanField_33 : cf_D k_scn_scanField 33 (.iload_n 3) 1 34 := ⟨by decide +kernel, rfl⟩
theorem d_scn_scanField_34 : cf_D k_scn_scanField 34 (.iload_n 1) 1 35 := ⟨by decide +kernel, rfl⟩
theorem d_scn_scanField_35 : cf_D k_scn_scanField 35 (.isub) 1 36 := ⟨by decide +kernel, rfl⟩
theorem d_scn_scanField_36 : cf_D k_scn_scanField 36 (.istore 4) 2 38 := ⟨by decide +kernel, rfl⟩
theorem d_scn_scanField_38 : cf_D k_scn_scanField 38 (.aload_n 0) 1 39 := ⟨by decide +kernel, rfl⟩
theorem d_scn_scanField_39 : cf_D k_scn_scanField 39 (.iload_n 2) 1 40 := ⟨by decide +kernel, rfl⟩
theorem d_scn_scanField_40 : cf_D k_scn_scanField 40 (.iload 4) 2 42 := ⟨by decide +kernel, rfl⟩
theorem d_scn_scanField_42 : cf_D k_scn_scanField 42 (.invokevirtual 95) 3 45 := ⟨by decide +kernel, rfl⟩
theorem d_scn_scanField_45 : cf_D k_scn_scanField 45 (.ifCond .ne 5) 3 48 := ⟨by decide +kernel, rfl⟩
theorem d_scn_scanField_48 : cf_D k_scn_scanField 48 (.iconst 0) 1 49 := ⟨by decide +kernel, rfl⟩
theorem d_scn_scanField_49 : cf_D k_scn_scanField 49 (.ireturn) 1 50 := ⟨by decide +kernel, rfl⟩
theorem d_scn_scanField_50 : cf_D k_scn_scanField 50 (.aload_n 0) 1 51 := ⟨by decide +kernel, rfl⟩
theorem d_scn_scanField_51 : cf_D k_scn_scanField 51 (.getfield 9) 3 54 := ⟨by decide +kernel, rfl⟩
theorem d_scn_scanField_54 : cf_D k_scn_scanField 54 (.bipush 8) 2 56 := ⟨by decide +kernel, rfl⟩
theorem d_scn_scanField_56 : cf_D k_scn_scanField 56 (.iload_n 2) 1 57 := ⟨by decide +kernel, rfl⟩
theorem d_scn_scanField_57 : cf_D k_scn_scanField 57 (.iload 4) 2 59 := ⟨by decide +kernel, rfl⟩
theorem d_scn_scanField_59 : cf_D k_scn_scanField 59 (.invokevirtual 71) 3 62 := ⟨by decide +kernel, rfl⟩
theorem d_scn_scanField_62 : cf_D k_scn_scanField 62 (.iload 4) 2 64 := ⟨by decide +kernel, rfl⟩
theorem d_scn_scanField_64 : cf_D k_scn_scanField 64 (.ireturn) 1 65 := ⟨by decide +kernel, rfl⟩
theorem d_scn_isFieldLength_0 : cf_D k_scn_isFieldLength 0 (.iload_n 1) 1 1 := ⟨by decide +kernel, rfl⟩
theorem d_scn_isFieldLength_1 : cf_D k_scn_isFieldLength 1 (.bipush 121) 2 3 := ⟨by decide +kernel, rfl⟩
theorem d_scn_isFieldLength_3 : cf_D k_scn_isFieldLength 3 (.if_icmp .ne 19) 3 6 := ⟨by decide +kernel, rfl⟩
theorem d_scn_isFieldLength_6 : cf_D k_scn_isFieldLength 6 (.iload_n 2) 1 7 := ⟨by decide +kernel, rfl⟩
theorem d_scn_isFieldLength_7 : cf_D k_scn_isFieldLength 7 (.iconst 2) 1 8 := ⟨by decide +kernel, rfl⟩
theorem d_scn_isFieldLength_8 : cf_D k_scn_isFieldLength 8 (.if_icmp .eq 8) 3 11 := ⟨by decide +kernel, rfl⟩
theorem d_scn_isFieldLength_11 : cf_D k_scn_isFieldLength 11 (.iload_n 2) 1 12 := ⟨by decide +kernel, rfl⟩
theorem d_scn_isFieldLength_12 : cf_D k_scn_isFieldLength 12 (.iconst 4) 1 13 := ⟨by decide +kernel, rfl⟩
theorem d_scn_isFieldLength_13 : cf_D k_scn_isFieldLength 13 (.if_icmp .ne 7) 3 16 := ⟨by decide +kernel, rfl⟩
theorem d_scn_isFieldLength_16 : cf_D k_scn_isFieldLength 16 (.iconst 1) 1 17 := ⟨by decide +kernel, rfl⟩
theorem d_scn_isFieldLength_17 : cf_D k_scn_isFieldLength 17 (.goto 4) 3 20 := ⟨by decide +kernel, rfl⟩
theorem d_scn_isFieldLength_20 : cf_D k_scn_isFieldLength 20 (.iconst 0) 1 21 := ⟨by decide +kernel, rfl⟩
theorem d_scn_isFieldLength_21 : cf_D k_scn_isFieldLength 21 (.ireturn) 1 22 := ⟨by decide +kernel, rfl⟩
theorem d_scn_isFieldLength_22 : cf_D k_scn_isFieldLength 22 (.iload_n 1) 1 23 := ⟨by decide +kernel, rfl⟩
theorem d_scn_isFieldLength_23 : cf_D k_scn_isFieldLength 23 (.bipush 109) 2 25 := ⟨by decide +kernel, rfl⟩
theorem d_scn_isFieldLength_25 : cf_D k_scn_isFieldLength 25 (.if_icmp .eq 9) 3 28 := ⟨by decide +kernel, rfl⟩
theorem d_scn_isFieldLength_28 : cf_D k_scn_isFieldLength 28 (.iload_n 1) 1 29 := ⟨by decide +kernel, rfl⟩
theorem d_scn_isFieldLength_29 : cf_D k_scn_isFieldLength 29 (.bipush 100) 2 31 := ⟨by decide +kernel, rfl⟩
theorem d_scn_isFieldLength_31 : cf_D k_scn_isFieldLength 31 (.if_icmp .ne 16) 3 34 := ⟨by decide +kernel, rfl⟩
theorem d_scn_isFieldLength_34 : cf_D k_scn_isFieldLength 34 (.iload_n 2) 1 35 := ⟨by decide +kernel, rfl⟩
theorem d_scn_isFieldLength_35 : cf_D k_scn_isFieldLength 35 (.iconst 3) 1 36 := ⟨by decide +kernel, rfl⟩
theorem d_scn_isFieldLength_36 : cf_D k_scn_isFieldLength 36 (.if_icmp .gt 7) 3 39 := ⟨by decide +kernel, rfl⟩
theorem d_scn_isFieldLength_39 : cf_D k_scn_isFieldLength 39 (.iconst 1) 1 40 := ⟨by decide +kernel, rfl⟩
theorem d_scn_isFieldLength_40 : cf_D k_scn_isFieldLength 40 (.goto 17) 3 43 := ⟨by decide +kernel, rfl⟩
theorem d_scn_isFieldLength_43 : cf_D k_scn_isFieldLength 43 (.iconst 0) 1 44 := ⟨by decide +kernel, rfl⟩
theorem d_scn_isFieldLength_44 : cf_D k_scn_isFieldLength 44 (.goto 13) 3 47 := ⟨by decide +kernel, rfl⟩
theorem d_scn_isFieldLength_47 : cf_D k_scn_isFieldLength 47 (.iload_n 2) 1 48 := ⟨by decide +kernel, rfl⟩
theorem d_scn_isFieldLength_48 : cf_D k_scn_isFieldLength 48 (.iconst 2) 1 49 := ⟨by decide +kernel, rfl⟩
theorem d_scn_isFieldLength_49 : cf_D k_scn_isFieldLength 49 (.if_icmp .gt 7) 3 52 := ⟨by decide +kernel, rfl⟩
theorem d_scn_isFieldLength_52 : cf_D k_scn_isFieldLength 52 (.iconst 1) 1 53 := ⟨by decide +kernel, rfl⟩
theorem d_scn_isFieldLength_53 : cf_D k_scn_isFieldLength 53 (.goto 4) 3 56 := ⟨by decide +kernel, rfl⟩
theorem d_scn_isFieldLength_56 : cf_D k_scn_isFieldLength 56 (.iconst 0) 1 57 := ⟨by decide +kernel, rfl⟩
theorem d_scn_isFieldLength_57 : cf_D k_scn_isFieldLength 57 (.ireturn) 1 58 := ⟨by decide +kernel, rfl⟩
theorem d_scn_scanSingle_0 : cf_D k_scn_scanSingle 0 (.ldc 99) 2 2 := ⟨by decide +kernel, rfl⟩
theorem d_scn_scanSingle_2 : cf_D k_scn_scanSingle 2 (.iload_n 1) 1 3 := ⟨by decide +kernel, rfl⟩
theorem d_scn_scanSingle_3 : cf_D k_scn_scanSingle 3 (.invokevirtual 59) 3 6 := ⟨by decide +kernel, rfl⟩
theorem d_scn_scanSingle_6 : cf_D k_scn_scanSingle 6 (.ifCond .lt 16) 3 9 := ⟨by decide +kernel, rfl⟩
theorem d_scn_scanSingle_9 : cf_D k_scn_scanSingle 9 (.aload_n 0) 1 10 := ⟨by decide +kernel, rfl⟩
theorem d_scn_scanSingle_10 : cf_D k_scn_scanSingle 10 (.getfield 9) 3 13 := ⟨by decide +kernel, rfl⟩
theorem d_scn_scanSingle_13 : cf_D k_scn_scanSingle 13 (.iconst 1) 1 14 := ⟨by decide +kernel, rfl⟩
theorem d_scn_scanSingle_14 : cf_D k_scn_scanSingle 14 (.iload_n 1) 1 15 := ⟨by decide +kernel, rfl⟩
theorem d_scn_scanSingle_15 : cf_D k_scn_scanSingle 15 (.iconst 0) 1 16 := ⟨by decide +kernel, rfl⟩
theorem d_scn_scanSingle_16 : cf_D k_scn_scanSingle 16 (.invokevirtual 71) 3 19 := ⟨by decide +kernel, rfl⟩
theorem d_scn_scanSingle_19 : cf_D k_scn_scanSingle 19 (.goto 104) 3 22 := ⟨by decide +kernel, rfl⟩
theorem d_scn_scanSingle_22 : cf_D k_scn_scanSingle 22 (.ldc 101) 2 24 := ⟨by decide +kernel, rfl⟩
theorem d_scn_scanSingle_24 : cf_D k_scn_scanSingle 24 (.iload_n 1) 1 25 := ⟨by decide +kernel, rfl⟩
theorem d_scn_scanSingle_25 : cf_D k_scn_scanSingle 25 (.invokevirtual 59) 3 28 := ⟨by decide +kernel, rfl⟩
theorem d_scn_scanSingle_28 : cf_D k_scn_scanSingle 28 (.ifCond .lt 16) 3 31 := ⟨by decide +kernel, rfl⟩
theorem d_scn_scanSingle_31 : cf_D k_scn_scanSingle 31 (.aload_n 0) 1 32 := ⟨by decide +kernel, rfl⟩
theorem d_scn_scanSingle_32 : cf_D k_scn_scanSingle 32 (.getfield 9) 3 35 := ⟨by decide +kernel, rfl⟩
theorem d_scn_scanSingle_35 : cf_D k_scn_scanSingle 35 (.iconst 2) 1 36 := ⟨by decide +kernel, rfl⟩
theorem d_scn_scanSingle_36 : cf_D k_scn_scanSingle 36 (.iload_n 1) 1 37 := ⟨by decide +kernel, rfl⟩
theorem d_scn_scanSingle_37 : cf_D k_scn_scanSingle 37 (.iconst 0) 1 38 := ⟨by decide +kernel, rfl⟩
theorem d_scn_scanSingle_38 : cf_D k_scn_scanSingle 38 (.invokevirtual 71) 3 41 := ⟨by decide +kernel, rfl⟩
theorem d_scn_scanSingle_41 : cf_D k_scn_scanSingle 41 (.goto 82) 3 44 := ⟨by decide +kernel, rfl⟩
theorem d_scn_scanSingle_44 : cf_D k_scn_scanSingle 44 (.iload_n 1) 1 45 := ⟨by decide +kernel, rfl⟩
theorem d_scn_scanSingle_45 : cf_D k_scn_scanSingle 45 (.bipush 46) 2 47 := ⟨by decide +kernel, rfl⟩
theorem d_scn_scanSingle_47 : cf_D k_scn_scanSingle 47 (.if_icmp .ne 16) 3 50 := ⟨by decide +kernel, rfl⟩
theorem d_scn_scanSingle_50 : cf_D k_scn_scanSingle 50 (.aload_n 0) 1 51 := ⟨by decide +kernel, rfl⟩
theorem d_scn_scanSingle_51 : cf_D k_scn_scanSingle 51 (.getfield 9) 3 54 := ⟨by decide +kernel, rfl⟩
theorem d_scn_scanSingle_54 : cf_D k_scn_scanSingle 54 (.iconst 3) 1 55 := ⟨by decide +kernel, rfl⟩
theorem d_scn_scanSingle_55 : cf_D k_scn_scanSingle 55 (.iload_n 1) 1 56 := ⟨by decide +kernel, rfl⟩
theorem d_scn_scanSingle_56 : cf_D k_scn_scanSingle 56 (.iconst 0) 1 57 := ⟨by decide +kernel, rfl⟩
theorem d_scn_scanSingle_57 : cf_D k_scn_scanSingle 57 (.invokevirtual 71) 3 60 := ⟨by decide +kernel, rfl⟩
theorem d_scn_scanSingle_60 : cf_D k_scn_scanSingle 60 (.goto 63) 3 63 := ⟨by decide +kernel, rfl⟩
theorem d_scn_scanSingle_63 : cf_D k_scn_scanSingle 63 (.iload_n 1) 1 64 := ⟨by decide +kernel, rfl⟩
theorem d_scn_scanSingle_64 : cf_D k_scn_scanSingle 64 (.bipush 44) 2 66 := ⟨by decide +kernel, rfl⟩
theorem d_scn_scanSingle_66 : cf_D k_scn_scanSingle 66 (.if_icmp .ne 16) 3 69 := ⟨by decide +kernel, rfl⟩
theorem d_scn_scanSingle_69 : cf_D k_scn_scanSingle 69 (.aload_n 0) 1 70 := ⟨by decide +kernel, rfl⟩
theorem d_scn_scanSingle_70 : cf_D k_scn_scanSingle 70 (.getfield 9) 3 73 := ⟨by decide +kernel, rfl⟩
theorem d_scn_scanSingle_73 : cf_D k_scn_scanSingle 73 (.iconst 4) 1 74 := ⟨by decide +kernel, rfl⟩
theorem d_scn_scanSingle_74 : cf_D k_scn_scanSingle 74 (.iload_n 1) 1 75 := ⟨by decide +kernel, rfl⟩
theorem d_scn_scanSingle_75 : cf_D k_scn_scanSingle 75 (.iconst 0) 1 76 := ⟨by decide +kernel, rfl⟩
theorem d_scn_scanSingle_76 : cf_D k_scn_scanSingle 76 (.invokevirtual 71) 3 79 := ⟨by decide +kernel, rfl⟩
theorem d_scn_scanSingle_79 : cf_D k_scn_scanSingle 79 (.goto 44) 3 82 := ⟨by decide +kernel, rfl⟩
theorem d_scn_scanSingle_82 : cf_D k_scn_scanSingle 82 (.iload_n 1) 1 83 := ⟨by decide +kernel, rfl⟩
theorem d_scn_scanSingle_83 : cf_D k_scn_scanSingle 83 (.bipush 37) 2 85 := ⟨by decide +kernel, rfl⟩
theorem d_scn_scanSingle_85 : cf_D k_scn_scanSingle 85 (.if_icmp .ne 16) 3 88 := ⟨by decide +kernel, rfl⟩
theorem d_scn_scanSingle_88 : cf_D k_scn_scanSingle 88 (.aload_n 0) 1 89 := ⟨by decide +kernel, rfl⟩
theorem d_scn_scanSingle_89 : cf_D k_scn_scanSingle 89 (.getfield 9) 3 92 := ⟨by decide +kernel, rfl⟩
theorem d_scn_scanSingle_92 : cf_D k_scn_scanSingle 92 (.iconst 5) 1 93 := ⟨by decide +kernel, rfl⟩
theorem d_scn_scanSingle_93 : cf_D k_scn_scanSingle 93 (.iload_n 1) 1 94 := ⟨by decide +kernel, rfl⟩
theorem d_scn_scanSingle_94 : cf_D k_scn_scanSingle 94 (.iconst 0) 1 95 := ⟨by decide +kernel, rfl⟩
theorem d_scn_scanSingle_95 : cf_D k_scn_scanSingle 95 (.invokevirtual 71) 3 98 := ⟨by decide +kernel, rfl⟩
theorem d_scn_scanSingle_98 : cf_D k_scn_scanSingle 98 (.goto 25) 3 101 := ⟨by decide +kernel, rfl⟩
theorem d_scn_scanSingle_101 : cf_D k_scn_scanSingle 101 (.iload_n 1) 1 102 := ⟨by decide +kernel, rfl⟩
theorem d_scn_scanSingle_102 : cf_D k_scn_scanSingle 102 (.bipush 59) 2 104 := ⟨by decide +kernel, rfl⟩
theorem d_scn_scanSingle_104 : cf_D k_scn_scanSingle 104 (.if_icmp .ne 17) 3 107 := ⟨by decide +kernel, rfl⟩
theorem d_scn_scanSingle_107 : cf_D k_scn_scanSingle 107 (.aload_n 0) 1 108 := ⟨by decide +kernel, rfl⟩
theorem d_scn_scanSingle_108 : cf_D k_scn_scanSingle 108 (.getfield 9) 3 111 := ⟨by decide +kernel, rfl⟩
theorem d_scn_scanSingle_111 : cf_D k_scn_scanSingle 111 (.bipush 11) 2 113 := ⟨by decide +kernel, rfl⟩
theorem d_scn_scanSingle_113 : cf_D k_scn_scanSingle 113 (.iload_n 1) 1 114 := ⟨by decide +kernel, rfl⟩
theorem d_scn_scanSingle_114 : cf_D k_scn_scanSingle 114 (.iconst 0) 1 115 := ⟨by decide +kernel, rfl⟩
theorem d_scn_scanSingle_115 : cf_D k_scn_scanSingle 115 (.invokevirtual 71) 3 118 := ⟨by decide +kernel, rfl⟩
theorem d_scn_scanSingle_118 : cf_D k_scn_scanSingle 118 (.goto 5) 3 121 := ⟨by decide +kernel, rfl⟩
theorem d_scn_scanSingle_121 : cf_D k_scn_scanSingle 121 (.iconst 0) 1 122 := ⟨by decide +kernel, rfl⟩
theorem d_scn_scanSingle_122 : cf_D k_scn_scanSingle 122 (.ireturn) 1 123 := ⟨by decide +kernel, rfl⟩
theorem d_scn_scanSingle_123 : cf_D k_scn_scanSingle 123 (.iconst 1) 1 124 := ⟨by decide +kernel, rfl⟩
theorem d_scn_scanSingle_124 : cf_D k_scn_scanSingle 124 (.ireturn) 1 125 := ⟨by decide +kernel, rfl⟩
theorem d_tok_count_0 : cf_D k_tok_count 0 (.iconst 0) 1 1 := ⟨by decide +kernel, rfl⟩
theorem d_tok_count_1 : cf_D k_tok_count 1 (.istore 4) 2 3 := ⟨by decide +kernel, rfl⟩
theorem d_tok_count_3 : cf_D k_tok_count 3 (.iload_n 2) 1 4 := ⟨by decide +kernel, rfl⟩
theorem d_tok_count_4 : cf_D k_tok_count 4 (.istore 5) 2 6 := ⟨by decide +kernel, rfl⟩
theorem d_tok_count_6 : cf_D k_tok_count 6 (.iload 5) 2 8 := ⟨by decide +kernel, rfl⟩
theorem d_tok_count_8 : cf_D k_tok_count 8 (.iload_n 3) 1 9 := ⟨by decide +kernel, rfl⟩
theorem d_tok_count_9 : cf_D k_tok_count 9 (.if_icmp .ge 22) 3 12 := ⟨by decide +kernel, rfl⟩
theorem d_tok_count_12 : cf_D k_tok_count 12 (.aload_n 0) 1 13 := ⟨by decide +kernel, rfl⟩
theorem d_tok_count_13 : cf_D k_tok_count 13 (.iload 5) 2 15 := ⟨by decide +kernel, rfl⟩
theorem d_tok_count_15 : cf_D k_tok_count 15 (.invokevirtual 25) 3 18 := ⟨by decide +kernel, rfl⟩
theorem d_tok_count_18 : cf_D k_tok_count 18 (.iload_n 1) 1 19 := ⟨by decide +kernel, rfl⟩
theorem d_tok_count_19 : cf_D k_tok_count 19 (.if_icmp .ne 6) 3 22 := ⟨by decide +kernel, rfl⟩
theorem d_tok_count_22 : cf_D k_tok_count 22 (.iinc 4 1) 3 25 := ⟨by decide +kernel, rfl⟩
theorem d_tok_count_25 : cf_D k_tok_count 25 (.iinc 5 1) 3 28 := ⟨by decide +kernel, rfl⟩
theorem d_tok_count_28 : cf_D k_tok_count 28 (.goto (-22)) 3 31 := ⟨by decide +kernel, rfl⟩
theorem d_tok_count_31 : cf_D k_tok_count 31 (.iload 4) 2 33 := ⟨by decide +kernel, rfl⟩
theorem d_tok_count_33 : cf_D k_tok_count 33 (.ireturn) 1 34 := ⟨by decide +kernel, rfl⟩
theorem d_tok_typeAt_0 : cf_D k_tok_typeAt 0 (.iload_n 1) 1 1 := ⟨by decide +kernel, rfl⟩
theorem d_tok_typeAt_1 : cf_D k_tok_typeAt 1 (.ifCond .lt 20) 3 4 := ⟨by decide +kernel, rfl⟩
theorem d_tok_typeAt_4 : cf_D k_tok_typeAt 4 (.iload_n 1) 1 5 := ⟨by decide +kernel, rfl⟩
theorem d_tok_typeAt_5 : cf_D k_tok_typeAt 5 (.aload_n 0) 1 6 := ⟨by decide +kernel, rfl⟩
theorem d_tok_typeAt_6 : cf_D k_tok_typeAt 6 (.getfield 21) 3 9 := ⟨by decide +kernel, rfl⟩
theorem d_tok_typeAt_9 : cf_D k_tok_typeAt 9 (.if_icmp .ge 12) 3 12 := ⟨by decide +kernel, rfl⟩
theorem d_tok_typeAt_12 : cf_D k_tok_typeAt 12 (.aload_n 0) 1 13 := ⟨by decide +kernel, rfl⟩
theorem d_tok_typeAt_13 : cf_D k_tok_typeAt 13 (.getfield 9) 3 16 := ⟨by decide +kernel, rfl⟩
theorem d_tok_typeAt_16 : cf_D k_tok_typeAt 16 (.iload_n 1) 1 17 := ⟨by decide +kernel, rfl⟩
theorem d_tok_typeAt_17 : cf_D k_tok_typeAt 17 (.iaload) 1 18 := ⟨by decide +kernel, rfl⟩
theorem d_tok_typeAt_18 : cf_D k_tok_typeAt 18 (.goto 4) 3 21 := ⟨by decide +kernel, rfl⟩
theorem d_tok_typeAt_21 : cf_D k_tok_typeAt 21 (.iconst (-1)) 1 22 := ⟨by decide +kernel, rfl⟩
theorem d_tok_typeAt_22 : cf_D k_tok_typeAt 22 (.ireturn) 1 23 := ⟨by decide +kernel, rfl⟩
theorem d_fmt_readParts_0 : cf_D k_fmt_readParts 0 (.aload_n 0) 1 1 := ⟨by decide +kernel, rfl⟩
theorem d_fmt_readParts_1 : cf_D k_fmt_readParts 1 (.iconst 0) 1 2 := ⟨by decide +kernel, rfl⟩
theorem d_fmt_readParts_2 : cf_D k_fmt_readParts 2 (.putfield 43) 3 5 := ⟨by decide +kernel, rfl⟩
theorem d_fmt_readParts_5 : cf_D k_fmt_readParts 5 (.iconst 0) 1 6 := ⟨by decide +kernel, rfl⟩
theorem d_fmt_readParts_6 : cf_D k_fmt_readParts 6 (.istore_n 2) 1 7 := ⟨by decide +kernel, rfl⟩
theorem d_fmt_readParts_7 : cf_D k_fmt_readParts 7 (.iconst 0) 1 8 := ⟨by decide +kernel, rfl⟩
theorem d_fmt_readParts_8 : cf_D k_fmt_readParts 8 (.istore_n 3) 1 9 := ⟨by decide +kernel, rfl⟩
theorem d_fmt_readParts_9 : cf_D k_fmt_readParts 9 (.iload_n 3) 1 10 := ⟨by decide +kernel, rfl⟩
theorem d_fmt_readParts_10 : cf_D k_fmt_readParts 10 (.iload_n 1) 1 11 := ⟨by decide +kernel, rfl⟩
theorem d_fmt_readParts_11 : cf_D k_fmt_readParts 11 (.if_icmp .ge 82) 3 14 := ⟨by decide +kernel, rfl⟩
theorem d_fmt_readParts_14 : cf_D k_fmt_readParts 14 (.aload_n 0) 1 15 := ⟨by decide +kernel, rfl⟩
theorem d_fmt_readParts_15 : cf_D k_fmt_readParts 15 (.getfield 20) 3 18 := ⟨by decide +kernel, rfl⟩
theorem d_fmt_readParts_18 : cf_D k_fmt_readParts 18 (.bipush 11) 2 20 := ⟨by decide +kernel, rfl⟩
theorem d_fmt_readParts_20 : cf_D k_fmt_readParts 20 (.iload_n 2) 1 21 := ⟨by decide +kernel, rfl⟩
theorem d_fmt_readParts_21 : cf_D k_fmt_readParts 21 (.aload_n 0) 1 22 := ⟨by decide +kernel, rfl⟩
theorem d_fmt_readParts_22 : cf_D k_fmt_readParts 22 (.getfield 20) 3 25 := ⟨by decide +kernel, rfl⟩
theorem d_fmt_readParts_25 : cf_D k_fmt_readParts 25 (.getfield 86) 3 28 := ⟨by decide +kernel, rfl⟩
theorem d_fmt_readParts_28 : cf_D k_fmt_readParts 28 (.invokevirtual 144) 3 31 := ⟨by decide +kernel, rfl⟩
theorem d_fmt_readParts_31 : cf_D k_fmt_readParts 31 (.istore 4) 2 33 := ⟨by decide +kernel, rfl⟩
theorem d_fmt_readParts_33 : cf_D k_fmt_readParts 33 (.aload_n 0) 1 34 := ⟨by decide +kernel, rfl⟩
theorem d_fmt_readParts_34 : cf_D k_fmt_readParts 34 (.getfield 35) 3 37 := ⟨by decide +kernel, rfl⟩
theorem d_fmt_readParts_37 : cf_D k_fmt_readParts 37 (.iload_n 3) 1 38 := ⟨by decide +kernel, rfl⟩
theorem d_fmt_readParts_38 : cf_D k_fmt_readParts 38 (.aaload) 1 39 := ⟨by decide +kernel, rfl⟩
theorem d_fmt_readParts_39 : cf_D k_fmt_readParts 39 (.aload_n 0) 1 40 := ⟨by decide +kernel, rfl⟩
theorem d_fmt_readParts_40 : cf_D k_fmt_readParts 40 (.getfield 20) 3 43 := ⟨by decide +kernel, rfl⟩
theorem d_fmt_readParts_43 : cf_D k_fmt_readParts 43 (.iload_n 2) 1 44 := ⟨by decide +kernel, rfl⟩
theorem d_fmt_readParts_44 : cf_D k_fmt_readParts 44 (.iload 4) 2 46 := ⟨by decide +kernel, rfl⟩
theorem d_fmt_readParts_46 : cf_D k_fmt_readParts 46 (.invokevirtual 147) 3 49 := ⟨by decide +kernel, rfl⟩
theorem d_fmt_readParts_49 : cf_D k_fmt_readParts 49 (.ifCond .ne 5) 3 52 := ⟨by decide +kernel, rfl⟩
theorem d_fmt_readParts_52 : cf_D k_fmt_readParts 52 (.iload_n 3) 1 53 := ⟨by decide +kernel, rfl⟩
theorem d_fmt_readParts_53 : cf_D k_fmt_readParts 53 (.ireturn) 1 54 := ⟨by decide +kernel, rfl⟩
theorem d_fmt_readParts_54 : cf_D k_fmt_readParts 54 (.aload_n 0) 1 55 := ⟨by decide +kernel, rfl⟩
theorem d_fmt_readParts_55 : cf_D k_fmt_readParts 55 (.aload_n 0) 1 56 := ⟨by decide +kernel, rfl⟩
theorem d_fmt_readParts_56 : cf_D k_fmt_readParts 56 (.getfield 43) 3 59 := ⟨by decide +kernel, rfl⟩
theorem d_fmt_readParts_59 : cf_D k_fmt_readParts 59 (.ifCond .ne 15) 3 62 := ⟨by decide +kernel, rfl⟩
theorem d_fmt_readParts_62 : cf_D k_fmt_readParts 62 (.aload_n 0) 1 63 := ⟨by decide +kernel, rfl⟩
theorem d_fmt_readParts_63 : cf_D k_fmt_readParts 63 (.getfield 35) 3 66 := ⟨by decide +kernel, rfl⟩
theorem d_fmt_readParts_66 : cf_D k_fmt_readParts 66 (.iload_n 3) 1 67 := ⟨by decide +kernel, rfl⟩
theorem d_fmt_readParts_67 : cf_D k_fmt_readParts 67 (.aaload) 1 68 := ⟨by decide +kernel, rfl⟩
theorem d_fmt_readParts_68 : cf_D k_fmt_readParts 68 (.invokevirtual 151) 3 71 := ⟨by decide +kernel, rfl⟩
theorem d_fmt_readParts_71 : cf_D k_fmt_readParts 71 (.ifCond .eq 7) 3 74 := ⟨by decide +kernel, rfl⟩
theorem d_fmt_readParts_74 : cf_D k_fmt_readParts 74 (.iconst 1) 1 75 := ⟨by decide +kernel, rfl⟩
theorem d_fmt_readParts_75 : cf_D k_fmt_readParts 75 (.goto 4) 3 78 := ⟨by decide +kernel, rfl⟩
theorem d_fmt_readParts_78 : cf_D k_fmt_readParts 78 (.iconst 0) 1 79 := ⟨by decide +kernel, rfl⟩
theorem d_fmt_readParts_79 : cf_D k_fmt_readParts 79 (.putfield 43) 3 82 := ⟨by decide +kernel, rfl⟩
theorem d_fmt_readParts_82 : cf_D k_fmt_readParts 82 (.iload 4) 2 84 := ⟨by decide +kernel, rfl⟩
theorem d_fmt_readParts_84 : cf_D k_fmt_readParts 84 (.iconst 1) 1 85 := ⟨by decide +kernel, rfl⟩
theorem d_fmt_readParts_85 : cf_D k_fmt_readParts 85 (.iadd) 1 86 := ⟨by decide +kernel, rfl⟩
theorem d_fmt_readParts_86 : cf_D k_fmt_readParts 86 (.istore_n 2) 1 87 := ⟨by decide +kernel, rfl⟩
theorem d_fmt_readParts_87 : cf_D k_fmt_readParts 87 (.iinc 3 1) 3 90 := ⟨by decide +kernel, rfl⟩
theorem d_fmt_readParts_90 : cf_D k_fmt_readParts 90 (.goto (-81)) 3 93 := ⟨by decide +kernel, rfl⟩
theorem d_fmt_readParts_93 : cf_D k_fmt_readParts 93 (.iconst (-1)) 1 94 := ⟨by decide +kernel, rfl⟩
theorem d_fmt_readParts_94 : cf_D k_fmt_readParts 94 (.ireturn) 1 95 := ⟨by decide +kernel, rfl⟩
theorem d_tok_find_0 : cf_D k_tok_find 0 (.iload_n 2) 1 1 := ⟨by decide +kernel, rfl⟩
theorem d_tok_find_1 : cf_D k_tok_find 1 (.istore 4) 2 3 := ⟨by decide +kernel, rfl⟩
theorem d_tok_find_3 : cf_D k_tok_find 3 (.iload 4) 2 5 := ⟨by decide +kernel, rfl⟩
theorem d_tok_find_5 : cf_D k_tok_find 5 (.iload_n 3) 1 6 := ⟨by decide +kernel, rfl⟩
theorem d_tok_find_6 : cf_D k_tok_find 6 (.if_icmp .ge 22) 3 9 := ⟨by decide +kernel, rfl⟩
theorem d_tok_find_9 : cf_D k_tok_find 9 (.aload_n 0) 1 10 := ⟨by decide +kernel, rfl⟩
theorem d_tok_find_10 : cf_D k_tok_find 10 (.iload 4) 2 12 := ⟨by decide +kernel, rfl⟩
theorem d_tok_find_12 : cf_D k_tok_find 12 (.invokevirtual 25) 3 15 := ⟨by decide +kernel, rfl⟩
theorem d_tok_find_15 : cf_D k_tok_find 15 (.iload_n 1) 1 16 := ⟨by decide +kernel, rfl⟩
theorem d_tok_find_16 : cf_D k_tok_find 16 (.if_icmp .ne 6) 3 19 := ⟨by decide +kernel, rfl⟩
theorem d_tok_find_19 : cf_D k_tok_find 19 (.iload 4) 2 21 := ⟨by decide +kernel, rfl⟩
theorem d_tok_find_21 : cf_D k_tok_find 21 (.ireturn) 1 22 := ⟨by decide +kernel, rfl⟩
theorem d_tok_find_22 : cf_D k_tok_find 22 (.iinc 4 1) 3 25 := ⟨by decide +kernel, rfl⟩
theorem d_tok_find_25 : cf_D k_tok_find 25 (.goto (-22)) 3 28 := ⟨by decide +kernel, rfl⟩
theorem d_tok_find_28 : cf_D k_tok_find 28 (.iload_n 3) 1 29 := ⟨by decide +kernel, rfl⟩
theorem d_tok_find_29 : cf_D k_tok_find 29 (.ireturn) 1 30 := ⟨by decide +kernel, rfl⟩
theorem d_sec_read_0 : cf_D k_sec_read 0 (.aload_n 0) 1 1 := ⟨by decide +kernel, rfl⟩
theorem d_sec_read_1 : cf_D k_sec_read 1 (.iload_n 2) 1 2 := ⟨by decide +kernel, rfl⟩
theorem d_sec_read_2 : cf_D k_sec_read 2 (.putfield 15) 3 5 := ⟨by decide +kernel, rfl⟩
theorem d_sec_read_5 : cf_D k_sec_read 5 (.aload_n 0) 1 6 := ⟨by decide +kernel, rfl⟩
theorem d_sec_read_6 : cf_D k_sec_read 6 (.iload_n 3) 1 7 := ⟨by decide +kernel, rfl⟩
theorem d_sec_read_7 : cf_D k_sec_read 7 (.putfield 18) 3 10 := ⟨by decide +kernel, rfl⟩
theorem d_sec_read_10 : cf_D k_sec_read 10 (.aload_n 1) 1 11 := ⟨by decide +kernel, rfl⟩
theorem d_sec_read_11 : cf_D k_sec_read 11 (.iconst 2) 1 12 := ⟨by decide +kernel, rfl⟩
theorem d_sec_read_12 : cf_D k_sec_read 12 (.aload_n 0) 1 13 := ⟨by decide +kernel, rfl⟩
theorem d_sec_read_13 : cf_D k_sec_read 13 (.getfield 15) 3 16 := ⟨by decide +kernel, rfl⟩
theorem d_sec_read_16 : cf_D k_sec_read 16 (.aload_n 0) 1 17 := ⟨by decide +kernel, rfl⟩
theorem d_sec_read_17 : cf_D k_sec_read 17 (.getfield 18) 3 20 := ⟨by decide +kernel, rfl⟩
theorem d_sec_read_20 : cf_D k_sec_read 20 (.invokevirtual 21) 3 23 := ⟨by decide +kernel, rfl⟩
theorem d_sec_read_23 : cf_D k_sec_read 23 (.istore 4) 2 25 := ⟨by decide +kernel, rfl⟩
theorem d_sec_read_25 : cf_D k_sec_read 25 (.aload_n 0) 1 26 := ⟨by decide +kernel, rfl⟩
theorem d_sec_read_26 : cf_D k_sec_read 26 (.aload_n 1) 1 27 := ⟨by decide +kernel, rfl⟩
theorem d_sec_read_27 : cf_D k_sec_read 27 (.invokevirtual 27) 3 30 := ⟨by decide +kernel, rfl⟩
theorem d_sec_read_30 : cf_D k_sec_read 30 (.ifCond .le 11) 3 33 := ⟨by decide +kernel, rfl⟩
theorem d_sec_read_33 : cf_D k_sec_read 33 (.aload_n 0) 1 34 := ⟨by decide +kernel, rfl⟩
theorem d_sec_read_34 : cf_D k_sec_read 34 (.iconst 2) 1 35 := ⟨by decide +kernel, rfl⟩
theorem d_sec_read_35 : cf_D k_sec_read 35 (.putfield 9) 3 38 := ⟨by decide +kernel, rfl⟩
theorem d_sec_read_38 : cf_D k_sec_read 38 (.goto 17) 3 41 := ⟨by decide +kernel, rfl⟩
theorem d_sec_read_41 : cf_D k_sec_read 41 (.aload_n 0) 1 42 := ⟨by decide +kernel, rfl⟩
theorem d_sec_read_42 : cf_D k_sec_read 42 (.iload 4) 2 44 := ⟨by decide +kernel, rfl⟩
theorem d_sec_read_44 : cf_D k_sec_read 44 (.ifCond .le 7) 3 47 := ⟨by decide +kernel, rfl⟩
theorem d_sec_read_47 : cf_D k_sec_read 47 (.iconst 1) 1 48 := ⟨by decide +kernel, rfl⟩
theorem d_sec_read_48 : cf_D k_sec_read 48 (.goto 4) 3 51 := ⟨by decide +kernel, rfl⟩
theorem d_sec_read_51 : cf_D k_sec_read 51 (.iconst 0) 1 52 := ⟨by decide +kernel, rfl⟩
theorem d_sec_read_52 : cf_D k_sec_read 52 (.putfield 9) 3 55 := ⟨by decide +kernel, rfl⟩
theorem d_sec_read_55 : cf_D k_sec_read 55 (.aload_n 0) 1 56 := ⟨by decide +kernel, rfl⟩
theorem d_sec_read_56 : cf_D k_sec_read 56 (.aload_n 1) 1 57 := ⟨by decide +kernel, rfl⟩
theorem d_sec_read_57 : cf_D k_sec_read 57 (.invokevirtual 31) 3 60 := ⟨by decide +kernel, rfl⟩
theorem d_sec_read_60 : cf_D k_sec_read 60 (.ifCond .ne 5) 3 63 := ⟨by decide +kernel, rfl⟩
theorem d_sec_read_63 : cf_D k_sec_read 63 (.iconst 0) 1 64 := ⟨by decide +kernel, rfl⟩
theorem d_sec_read_64 : cf_D k_sec_read 64 (.ireturn) 1 65 := ⟨by decide +kernel, rfl⟩
theorem d_sec_read_65 : cf_D k_sec_read 65 (.aload_n 0) 1 66 := ⟨by decide +kernel, rfl⟩
theorem d_sec_read_66 : cf_D k_sec_read 66 (.getfield 9) 3 69 := ⟨by decide +kernel, rfl⟩
theorem d_sec_read_69 : cf_D k_sec_read 69 (.iconst 1) 1 70 := ⟨by decide +kernel, rfl⟩
theorem d_sec_read_70 : cf_D k_sec_read 70 (.if_icmp .ne 9) 3 73 := ⟨by decide +kernel, rfl⟩
theorem d_sec_read_73 : cf_D k_sec_read 73 (.aload_n 0) 1 74 := ⟨by decide +kernel, rfl⟩
theorem d_sec_read_74 : cf_D k_sec_read 74 (.aload_n 1) 1 75 := ⟨by decide +kernel, rfl⟩
theorem d_sec_read_75 : cf_D k_sec_read 75 (.invokevirtual 35) 3 78 := ⟨by decide +kernel, rfl⟩
theorem d_sec_read_78 : cf_D k_sec_read 78 (.ireturn) 1 79 := ⟨by decide +kernel, rfl⟩
theorem d_sec_read_79 : cf_D k_sec_read 79 (.aload_n 0) 1 80 := ⟨by decide +kernel, rfl⟩
theorem d_sec_read_80 : cf_D k_sec_read 80 (.aload_n 1) 1 81 := ⟨by decide +kernel, rfl⟩
theorem d_sec_read_81 : cf_D k_sec_read 81 (.invokevirtual 38) 3 84 := ⟨by decide +kernel, rfl⟩
theorem d_sec_read_84 : cf_D k_sec_read 84 (.iload 4) 2 86 := ⟨by decide +kernel, rfl⟩
theorem d_sec_read_86 : cf_D k_sec_read 86 (.ifCond .ne 15) 3 89 := ⟨by decide +kernel, rfl⟩
theorem d_sec_read_89 : cf_D k_sec_read 89 (.aload_n 0) 1 90 := ⟨by decide +kernel, rfl⟩
theorem d_sec_read_90 : cf_D k_sec_read 90 (.aload_n 1) 1 91 := ⟨by decide +kernel, rfl⟩
theorem d_sec_read_91 : cf_D k_sec_read 91 (.invokevirtual 42) 3 94 := ⟨by decide +kernel, rfl⟩
theorem d_sec_read_94 : cf_D k_sec_read 94 (.ifCond .ne 7) 3 97 := ⟨by decide +kernel, rfl⟩
theorem d_sec_read_97 : cf_D k_sec_read 97 (.iconst 1) 1 98 := ⟨by decide +kernel, rfl⟩
theorem d_sec_read_98 : cf_D k_sec_read 98 (.goto 4) 3 101 := ⟨by decide +kernel, rfl⟩
theorem d_sec_read_101 : cf_D k_sec_read 101 (.iconst 0) 1 102 := ⟨by decide +kernel, rfl⟩
theorem d_sec_read_102 : cf_D k_sec_read 102 (.ireturn) 1 103 := ⟨by decide +kernel, rfl⟩
theorem d_sec_countFields_0 : cf_D k_sec_countFields 0 (.iconst 0) 1 1 := ⟨by decide +kernel, rfl⟩
theorem d_sec_countFields_1 : cf_D k_sec_countFields 1 (.istore_n 2) 1 2 := ⟨by decide +kernel, rfl⟩
theorem d_sec_countFields_2 : cf_D k_sec_countFields 2 (.aload_n 0) 1 3 := ⟨by decide +kernel, rfl⟩
theorem d_sec_countFields_3 : cf_D k_sec_countFields 3 (.getfield 15) 3 6 := ⟨by decide +kernel, rfl⟩
theorem d_sec_countFields_6 : cf_D k_sec_countFields 6 (.istore_n 3) 1 7 := ⟨by decide +kernel, rfl⟩
theorem d_sec_countFields_7 : cf_D k_sec_countFields 7 (.iload_n 3) 1 8 := ⟨by decide +kernel, rfl⟩
theorem d_sec_countFields_8 : cf_D k_sec_countFields 8 (.aload_n 0) 1 9 := ⟨by decide +kernel, rfl⟩
theorem d_sec_countFields_9 : cf_D k_sec_countFields 9 (.getfield 18) 3 12 := ⟨by decide +kernel, rfl⟩
theorem d_sec_countFields_12 : cf_D k_sec_countFields 12 (.if_icmp .ge 20) 3 15 := ⟨by decide +kernel, rfl⟩
theorem d_sec_countFields_15 : cf_D k_sec_countFields 15 (.aload_n 1) 1 16 := ⟨by decide +kernel, rfl⟩
theorem d_sec_countFields_16 : cf_D k_sec_countFields 16 (.iload_n 3) 1 17 := ⟨by decide +kernel, rfl⟩
theorem d_sec_countFields_17 : cf_D k_sec_countFields 17 (.invokevirtual 59) 3 20 := ⟨by decide +kernel, rfl⟩
theorem d_sec_countFields_20 : cf_D k_sec_countFields 20 (.ifCond .eq 6) 3 23 := ⟨by decide +kernel, rfl⟩
theorem d_sec_countFields_23 : cf_D k_sec_countFields 23 (.iinc 2 1) 3 26 := ⟨by decide +kernel, rfl⟩
theorem d_sec_countFields_26 : cf_D k_sec_countFields 26 (.iinc 3 1) 3 29 := ⟨by decide +kernel, rfl⟩
theorem d_sec_countFields_29 : cf_D k_sec_countFields 29 (.goto (-22)) 3 32 := ⟨by decide +kernel, rfl⟩
theorem d_sec_countFields_32 : cf_D k_sec_countFields 32 (.iload_n 2) 1 33 := ⟨by decide +kernel, rfl⟩
theorem d_sec_countFields_33 : cf_D k_sec_countFields 33 (.ireturn) 1 34 := ⟨by decide +kernel, rfl⟩
theorem d_tok_isField_0 : cf_D k_tok_isField 0 (.aload_n 0) 1 1 := ⟨by decide +kernel, rfl⟩
theorem d_tok_isField_1 : cf_D k_tok_isField 1 (.iload_n 1) 1 2 := ⟨by decide +kernel, rfl⟩
theorem d_tok_isField_2 : cf_D k_tok_isField 2 (.invokevirtual 25) 3 5 := ⟨by decide +kernel, rfl⟩
theorem d_tok_isField_5 : cf_D k_tok_isField 5 (.istore_n 2) 1 6 := ⟨by decide +kernel, rfl⟩
theorem d_tok_isField_6 : cf_D k_tok_isField 6 (.iload_n 2) 1 7 := ⟨by decide +kernel, rfl⟩
theorem d_tok_isField_7 : cf_D k_tok_isField 7 (.bipush 8) 2 9 := ⟨by decide +kernel, rfl⟩
theorem d_tok_isField_9 : cf_D k_tok_isField 9 (.if_icmp .eq 15) 3 12 := ⟨by decide +kernel, rfl⟩
theorem d_tok_isField_12 : cf_D k_tok_isField 12 (.iload_n 2) 1 13 := ⟨by decide +kernel, rfl⟩
theorem d_tok_isField_13 : cf_D k_tok_isField 13 (.bipush 9) 2 15 := ⟨by decide +kernel, rfl⟩
theorem d_tok_isField_15 : cf_D k_tok_isField 15 (.if_icmp .eq 9) 3 18 := ⟨by decide +kernel, rfl⟩
theorem d_tok_isField_18 : cf_D k_tok_isField 18 (.iload_n 2) 1 19 := ⟨by decide +kernel, rfl⟩
theorem d_tok_isField_19 : cf_D k_tok_isField 19 (.bipush 10) 2 21 := ⟨by decide +kernel, rfl⟩
theorem d_tok_isField_21 : cf_D k_tok_isField 21 (.if_icmp .ne 7) 3 24 := ⟨by decide +kernel, rfl⟩
theorem d_tok_isField_24 : cf_D k_tok_isField 24 (.iconst 1) 1 25 := ⟨by decide +kernel, rfl⟩
theorem d_tok_isField_25 : cf_D k_tok_isField 25 (.goto 4) 3 28 := ⟨by decide +kernel, rfl⟩
theorem d_tok_isField_28 : cf_D k_tok_isField 28 (.iconst 0) 1 29 := ⟨by decide +kernel, rfl⟩
theorem d_tok_isField_29 : cf_D k_tok_isField 29 (.ireturn) 1 30 := ⟨by decide +kernel, rfl⟩
theorem d_sec_readCondition_0 : cf_D k_sec_readCondition 0 (.aload_n 0) 1 1 := ⟨by decide +kernel, rfl⟩
theorem d_sec_readCondition_1 : cf_D k_sec_readCondition 1 (.iconst 0) 1 2 := ⟨by decide +kernel, rfl⟩
theorem d_sec_readCondition_2 : cf_D k_sec_readCondition 2 (.putfield 45) 3 5 := ⟨by decide +kernel, rfl⟩
theorem d_sec_readCondition_5 : cf_D k_sec_readCondition 5 (.aload_n 0) 1 6 := ⟨by decide +kernel, rfl⟩
theorem d_sec_readCondition_6 : cf_D k_sec_readCondition 6 (.lconst 0) 1 7 := ⟨by decide +kernel, rfl⟩
theorem d_sec_readCondition_7 : cf_D k_sec_readCondition 7 (.putfield 52) 3 10 := ⟨by decide +kernel, rfl⟩
theorem d_sec_readCondition_10 : cf_D k_sec_readCondition 10 (.aload_n 1) 1 11 := ⟨by decide +kernel, rfl⟩
theorem d_sec_readCondition_11 : cf_D k_sec_readCondition 11 (.bipush 7) 2 13 := ⟨by decide +kernel, rfl⟩
theorem d_sec_readCondition_13 : cf_D k_sec_readCondition 13 (.aload_n 0) 1 14 := ⟨by decide +kernel, rfl⟩
theorem d_sec_readCondition_14 : cf_D k_sec_readCondition 14 (.getfield 15) 3 17 := ⟨by decide +kernel, rfl⟩
theorem d_sec_readCondition_17 : cf_D k_sec_readCondition 17 (.aload_n 0) 1 18 := ⟨by decide +kernel, rfl⟩
theorem d_sec_readCondition_18 : cf_D k_sec_readCondition 18 (.getfield 18) 3 21 := ⟨by decide +kernel, rfl⟩
theorem d_sec_readCondition_21 : cf_D k_sec_readCondition 21 (.invokevirtual 21) 3 24 := ⟨by decide +kernel, rfl⟩
theorem d_sec_readCondition_24 : cf_D k_sec_readCondition 24 (.istore_n 2) 1 25 := ⟨by decide +kernel, rfl⟩
theorem d_sec_readCondition_25 : cf_D k_sec_readCondition 25 (.iload_n 2) 1 26 := ⟨by decide +kernel, rfl⟩
theorem d_sec_readCondition_26 : cf_D k_sec_readCondition 26 (.ifCond .ne 5) 3 29 := ⟨by decide +kernel, rfl⟩
theorem d_sec_readCondition_29 : cf_D k_sec_readCondition 29 (.iconst 1) 1 30 := ⟨by decide +kernel, rfl⟩
theorem d_sec_readCondition_30 : cf_D k_sec_readCondition 30 (.ireturn) 1 31 := ⟨by decide +kernel, rfl⟩
theorem d_sec_readCondition_31 : cf_D k_sec_readCondition 31 (.iload_n 2) 1 32 := ⟨by decide +kernel, rfl⟩
theorem d_sec_readCondition_32 : cf_D k_sec_readCondition 32 (.iconst 1) 1 33 := ⟨by decide +kernel, rfl⟩
theorem d_sec_readCondition_33 : cf_D k_sec_readCondition 33 (.if_icmp .gt 16) 3 36 := ⟨by decide +kernel, rfl⟩
theorem d_sec_readCondition_36 : cf_D k_sec_readCondition 36 (.aload_n 1) 1 37 := ⟨by decide +kernel, rfl⟩
theorem d_sec_readCondition_37 : cf_D k_sec_readCondition 37 (.aload_n 0) 1 38 := ⟨by decide +kernel, rfl⟩
theorem d_sec_readCondition_38 : cf_D k_sec_readCondition 38 (.getfield 15) 3 41 := ⟨by decide +kernel, rfl⟩
theorem d_sec_readCondition_41 : cf_D k_sec_readCondition 41 (.invokevirtual 63) 3 44 := ⟨by decide +kernel, rfl⟩
theorem d_sec_readCondition_44 : cf_D k_sec_readCondition 44 (.bipush 7) 2 46 := ⟨by decide +kernel, rfl⟩
theorem d_sec_readCondition_46 : cf_D k_sec_readCondition 46 (.if_icmp .eq 5) 3 49 := ⟨by decide +kernel, rfl⟩
theorem d_sec_readCondition_49 : cf_D k_sec_readCondition 49 (.iconst 0) 1 50 := ⟨by decide +kernel, rfl⟩
theorem d_sec_readCondition_50 : cf_D k_sec_readCondition 50 (.ireturn) 1 51 := ⟨by decide +kernel, rfl⟩
theorem d_sec_readCondition_51 : cf_D k_sec_readCondition 51 (.aload_n 0) 1 52 := ⟨by decide +kernel, rfl⟩
theorem d_sec_readCondition_52 : cf_D k_sec_readCondition 52 (.aload_n 1) 1 53 := ⟨by decide +kernel, rfl⟩
theorem d_sec_readCondition_53 : cf_D k_sec_readCondition 53 (.aload_n 0) 1 54 := ⟨by decide +kernel, rfl⟩
theorem d_sec_readCondition_54 : cf_D k_sec_readCondition 54 (.getfield 15) 3 57 := ⟨by decide +kernel, rfl⟩
theorem d_sec_readCondition_57 : cf_D k_sec_readCondition 57 (.invokevirtual 67) 3 60 := ⟨by decide +kernel, rfl⟩
theorem d_sec_readCondition_60 : cf_D k_sec_readCondition 60 (.putfield 45) 3 63 := ⟨by decide +kernel, rfl⟩
theorem d_sec_readCondition_63 : cf_D k_sec_readCondition 63 (.aload_n 0) 1 64 := ⟨by decide +kernel, rfl⟩
theorem d_sec_readCondition_64 : cf_D k_sec_readCondition 64 (.aload_n 1) 1 65 := ⟨by decide +kernel, rfl⟩
theorem d_sec_readCondition_65 : cf_D k_sec_readCondition 65 (.aload_n 0) 1 66 := ⟨by decide +kernel, rfl⟩
theorem d_sec_readCondition_66 : cf_D k_sec_readCondition 66 (.getfield 15) 3 69 := ⟨by decide +kernel, rfl⟩
theorem d_sec_readCondition_69 : cf_D k_sec_readCondition 69 (.invokevirtual 70) 3 72 := ⟨by decide +kernel, rfl⟩
theorem d_sec_readCondition_72 : cf_D k_sec_readCondition 72 (.i2l) 1 73 := ⟨by decide +kernel, rfl⟩
theorem d_sec_readCondition_73 : cf_D k_sec_readCondition 73 (.ldc2_w 73) 3 76 := ⟨by decide +kernel, rfl⟩
theorem d_sec_readCondition_76 : cf_D k_sec_readCondition 76 (.lmul) 1 77 := ⟨by decide +kernel, rfl⟩
theorem d_sec_readCondition_77 : cf_D k_sec_readCondition 77 (.putfield 52) 3 80 := ⟨by decide +kernel, rfl⟩
theorem d_sec_readCondition_80 : cf_D k_sec_readCondition 80 (.iconst 1) 1 81 := ⟨by decide +kernel, rfl⟩
theorem d_sec_readCondition_81 : cf_D k_sec_readCondition 81 (.ireturn) 1 82 := ⟨by decide +kernel, rfl⟩
theorem d_tok_detailAt_0 : cf_D k_tok_detailAt 0 (.iload_n 1) 1 1 := ⟨by decide +kernel, rfl⟩
theorem d_tok_detailAt_1 : cf_D k_tok_detailAt 1 (.ifCond .lt 20) 3 4 := ⟨by decide +kernel, rfl⟩
theorem d_tok_detailAt_4 : cf_D k_tok_detailAt 4 (.iload_n 1) 1 5 := ⟨by decide +kernel, rfl⟩
theorem d_tok_detailAt_5 : cf_D k_tok_detailAt 5 (.aload_n 0) 1 6 := ⟨by decide +kernel, rfl⟩
theorem d_tok_detailAt_6 : cf_D k_tok_detailAt 6 (.getfield 21) 3 9 := ⟨by decide +kernel, rfl⟩
theorem d_tok_detailAt_9 : cf_D k_tok_detailAt 9 (.if_icmp .ge 12) 3 12 := ⟨by decide +kernel, rfl⟩
theorem d_tok_detailAt_12 : cf_D k_tok_detailAt 12 (.aload_n 0) 1 13 := ⟨by decide +kernel, rfl⟩
theorem d_tok_detailAt_13 : cf_D k_tok_detailAt 13 (.getfield 18) 3 16 := ⟨by decide +kernel, rfl⟩
theorem d_tok_detailAt_16 : cf_D k_tok_detailAt 16 (.iload_n 1) 1 17 := ⟨by decide +kernel, rfl⟩
theorem d_tok_detailAt_17 : cf_D k_tok_detailAt 17 (.iaload) 1 18 := ⟨by decide +kernel, rfl⟩
theorem d_tok_detailAt_18 : cf_D k_tok_detailAt 18 (.goto 4) 3 21 := ⟨by decide +kernel, rfl⟩
theorem d_tok_detailAt_21 : cf_D k_tok_detailAt 21 (.iconst 0) 1 22 := ⟨by decide +kernel, rfl⟩
theorem d_tok_detailAt_22 : cf_D k_tok_detailAt 22 (.ireturn) 1 23 := ⟨by decide +kernel, rfl⟩
theorem d_tok_valueAt_0 : cf_D k_tok_valueAt 0 (.iload_n 1) 1 1 := ⟨by decide +kernel, rfl⟩
theorem d_tok_valueAt_1 : cf_D k_tok_valueAt 1 (.ifCond .lt 20) 3 4 := ⟨by decide +kernel, rfl⟩
theorem d_tok_valueAt_4 : cf_D k_tok_valueAt 4 (.iload_n 1) 1 5 := ⟨by decide +kernel, rfl⟩
theorem d_tok_valueAt_5 : cf_D k_tok_valueAt 5 (.aload_n 0) 1 6 := ⟨by decide +kernel, rfl⟩
theorem d_tok_valueAt_6 : cf_D k_tok_valueAt 6 (.getfield 21) 3 9 := ⟨by decide +kernel, rfl⟩
theorem d_tok_valueAt_9 : cf_D k_tok_valueAt 9 (.if_icmp .ge 12) 3 12 := ⟨by decide +kernel, rfl⟩
theorem d_tok_valueAt_12 : cf_D k_tok_valueAt 12 (.aload_n 0) 1 13 := ⟨by decide +kernel, rfl⟩
theorem d_tok_valueAt_13 : cf_D k_tok_valueAt 13 (.getfield 15) 3 16 := ⟨by decide +kernel, rfl⟩
theorem d_tok_valueAt_16 : cf_D k_tok_valueAt 16 (.iload_n 1) 1 17 := ⟨by decide +kernel, rfl⟩
theorem d_tok_valueAt_17 : cf_D k_tok_valueAt 17 (.iaload) 1 18 := ⟨by decide +kernel, rfl⟩
theorem d_tok_valueAt_18 : cf_D k_tok_valueAt 18 (.goto 4) 3 21 := ⟨by decide +kernel, rfl⟩
theorem d_tok_valueAt_21 : cf_D k_tok_valueAt 21 (.iconst 0) 1 22 := ⟨by decide +kernel, rfl⟩
theorem d_tok_valueAt_22 : cf_D k_tok_valueAt 22 (.ireturn) 1 23 := ⟨by decide +kernel, rfl⟩
theorem d_sec_readNumber_0 : cf_D k_sec_readNumber 0 (.aload_n 1) 1 1 := ⟨by decide +kernel, rfl⟩
theorem d_sec_readNumber_1 : cf_D k_sec_readNumber 1 (.iconst 3) 1 2 := ⟨by decide +kernel, rfl⟩
theorem d_sec_readNumber_2 : cf_D k_sec_readNumber 2 (.aload_n 0) 1 3 := ⟨by decide +kernel, rfl⟩
theorem d_sec_readNumber_3 : cf_D k_sec_readNumber 3 (.getfield 15) 3 6 := ⟨by decide +kernel, rfl⟩
theorem d_sec_readNumber_6 : cf_D k_sec_readNumber 6 (.aload_n 0) 1 7 := ⟨by decide +kernel, rfl⟩
theorem d_sec_readNumber_7 : cf_D k_sec_readNumber 7 (.getfield 18) 3 10 := ⟨by decide +kernel, rfl⟩
theorem d_sec_readNumber_10 : cf_D k_sec_readNumber 10 (.invokevirtual 21) 3 13 := ⟨by decide +kernel, rfl⟩
theorem d_sec_readNumber_13 : cf_D k_sec_readNumber 13 (.istore_n 2) 1 14 := ⟨by decide +kernel, rfl⟩
theorem d_sec_readNumber_14 : cf_D k_sec_readNumber 14 (.aload_n 1) 1 15 := ⟨by decide +kernel, rfl⟩
theorem d_sec_readNumber_15 : cf_D k_sec_readNumber 15 (.bipush 6) 2 17 := ⟨by decide +kernel, rfl⟩
theorem d_sec_readNumber_17 : cf_D k_sec_readNumber 17 (.aload_n 0) 1 18 := ⟨by decide +kernel, rfl⟩
theorem d_sec_readNumber_18 : cf_D k_sec_readNumber 18 (.getfield 15) 3 21 := ⟨by decide +kernel, rfl⟩
theorem d_sec_readNumber_21 : cf_D k_sec_readNumber 21 (.aload_n 0) 1 22 := ⟨by decide +kernel, rfl⟩
theorem d_sec_readNumber_22 : cf_D k_sec_readNumber 22 (.getfield 18) 3 25 := ⟨by decide +kernel, rfl⟩
theorem d_sec_readNumber_25 : cf_D k_sec_readNumber 25 (.invokevirtual 21) 3 28 := ⟨by decide +kernel, rfl⟩
theorem d_sec_readNumber_28 : cf_D k_sec_readNumber 28 (.istore_n 3) 1 29 := ⟨by decide +kernel, rfl⟩
theorem d_sec_readNumber_29 : cf_D k_sec_readNumber 29 (.aload_n 0) 1 30 := ⟨by decide +kernel, rfl⟩
theorem d_sec_readNumber_30 : cf_D k_sec_readNumber 30 (.aload_n 1) 1 31 := ⟨by decide +kernel, rfl⟩
theorem d_sec_readNumber_31 : cf_D k_sec_readNumber 31 (.iconst 5) 1 32 := ⟨by decide +kernel, rfl⟩
theorem d_sec_readNumber_32 : cf_D k_sec_readNumber 32 (.aload_n 0) 1 33 := ⟨by decide +kernel, rfl⟩
theorem d_sec_readNumber_33 : cf_D k_sec_readNumber 33 (.getfield 15) 3 36 := ⟨by decide +kernel, rfl⟩
theorem d_sec_readNumber_36 : cf_D k_sec_readNumber 36 (.aload_n 0) 1 37 := ⟨by decide +kernel, rfl⟩
theorem d_sec_readNumber_37 : cf_D k_sec_readNumber 37 (.getfield 18) 3 40 := ⟨by decide +kernel, rfl⟩
theorem d_sec_readNumber_40 : cf_D k_sec_readNumber 40 (.invokevirtual 21) 3 43 := ⟨by decide +kernel, rfl⟩
theorem d_sec_readNumber_43 : cf_D k_sec_readNumber 43 (.putfield 75) 3 46 := ⟨by decide +kernel, rfl⟩
theorem d_sec_readNumber_46 : cf_D k_sec_readNumber 46 (.iload_n 2) 1 47 := ⟨by decide +kernel, rfl⟩
theorem d_sec_readNumber_47 : cf_D k_sec_readNumber 47 (.iconst 1) 1 48 := ⟨by decide +kernel, rfl⟩
theorem d_sec_readNumber_48 : cf_D k_sec_readNumber 48 (.if_icmp .gt 16) 3 51 := ⟨by decide +kernel, rfl⟩
theorem d_sec_readNumber_51 : cf_D k_sec_readNumber 51 (.iload_n 3) 1 52 := ⟨by decide +kernel, rfl⟩
theorem d_sec_readNumber_52 : cf_D k_sec_readNumber 52 (.iconst 1) 1 53 := ⟨by decide +kernel, rfl⟩
theorem d_sec_readNumber_53 : cf_D k_sec_readNumber 53 (.if_icmp .gt 11) 3 56 := ⟨by decide +kernel, rfl⟩
theorem d_sec_readNumber_56 : cf_D k_sec_readNumber 56 (.aload_n 0) 1 57 := ⟨by decide +kernel, rfl⟩
theorem d_sec_readNumber_57 : cf_D k_sec_readNumber 57 (.getfield 75) 3 60 := ⟨by decide +kernel, rfl⟩
theorem d_sec_readNumber_60 : cf_D k_sec_readNumber 60 (.iconst 2) 1 61 := ⟨by decide +kernel, rfl⟩
theorem d_sec_readNumber_61 : cf_D k_sec_readNumber 61 (.if_icmp .le 5) 3 64 := ⟨by decide +kernel, rfl⟩
theorem d_sec_readNumber_64 : cf_D k_sec_readNumber 64 (.iconst 0) 1 65 := ⟨by decide +kernel, rfl⟩
theorem d_sec_readNumber_65 : cf_D k_sec_readNumber 65 (.ireturn) 1 66 := ⟨by decide +kernel, rfl⟩
theorem d_sec_readNumber_66 : cf_D k_sec_readNumber 66 (.aload_n 0) 1 67 := ⟨by decide +kernel, rfl⟩
theorem d_sec_readNumber_67 : cf_D k_sec_readNumber 67 (.aload_n 1) 1 68 := ⟨by decide +kernel, rfl⟩
theorem d_sec_readNumber_68 : cf_D k_sec_readNumber 68 (.bipush 6) 2 70 := ⟨by decide +kernel, rfl⟩
theorem d_sec_readNumber_70 : cf_D k_sec_readNumber 70 (.aload_n 0) 1 71 := ⟨by decide +kernel, rfl⟩
theorem d_sec_readNumber_71 : cf_D k_sec_readNumber 71 (.getfield 15) 3 74 := ⟨by decide +kernel, rfl⟩
theorem d_sec_readNumber_74 : cf_D k_sec_readNumber 74 (.aload_n 0) 1 75 := ⟨by decide +kernel, rfl⟩
theorem d_sec_readNumber_75 : cf_D k_sec_readNumber 75 (.getfield 18) 3 78 := ⟨by decide +kernel, rfl⟩
theorem d_sec_readNumber_78 : cf_D k_sec_readNumber 78 (.invokevirtual 78) 3 81 := ⟨by decide +kernel, rfl⟩
theorem d_sec_readNumber_81 : cf_D k_sec_readNumber 81 (.putfield 56) 3 84 := ⟨by decide +kernel, rfl⟩
theorem d_sec_readNumber_84 : cf_D k_sec_readNumber 84 (.aload_n 0) 1 85 := ⟨by decide +kernel, rfl⟩
theorem d_sec_readNumber_85 : cf_D k_sec_readNumber 85 (.aload_n 1) 1 86 := ⟨by decide +kernel, rfl⟩
theorem d_sec_readNumber_86 : cf_D k_sec_readNumber 86 (.iconst 3) 1 87 := ⟨by decide +kernel, rfl⟩
theorem d_sec_readNumber_87 : cf_D k_sec_readNumber 87 (.aload_n 0) 1 88 := ⟨by decide +kernel, rfl⟩
theorem d_sec_readNumber_88 : cf_D k_sec_readNumber 88 (.getfield 15) 3 91 := ⟨by decide +kernel, rfl⟩
theorem d_sec_readNumber_91 : cf_D k_sec_readNumber 91 (.aload_n 0) 1 92 := ⟨by decide +kernel, rfl⟩
theorem d_sec_readNumber_92 : cf_D k_sec_readNumber 92 (.getfield 56) 3 95 := ⟨by decide +kernel, rfl⟩
theorem d_sec_readNumber_95 : cf_D k_sec_readNumber 95 (.invokevirtual 78) 3 98 := ⟨by decide +kernel, rfl⟩
theorem d_sec_readNumber_98 : cf_D k_sec_readNumber 98 (.putfield 81) 3 101 := ⟨by decide +kernel, rfl⟩
theorem d_sec_readNumber_101 : cf_D k_sec_readNumber 101 (.iload_n 2) 1 102 := ⟨by decide +kernel, rfl⟩
theorem d_sec_readNumber_102 : cf_D k_sec_readNumber 102 (.iconst 1) 1 103 := ⟨by decide +kernel, rfl⟩
theorem d_sec_readNumber_103 : cf_D k_sec_readNumber 103 (.if_icmp .ne 16) 3 106 := ⟨by decide +kernel, rfl⟩
theorem d_sec_readNumber_106 : cf_D k_sec_readNumber 106 (.aload_n 0) 1 107 := ⟨by decide +kernel, rfl⟩
theorem d_sec_readNumber_107 : cf_D k_sec_readNumber 107 (.getfield 81) 3 110 := ⟨by decide +kernel, rfl⟩
theorem d_sec_readNumber_110 : cf_D k_sec_readNumber 110 (.aload_n 0) 1 111 := ⟨by decide +kernel, rfl⟩
theorem d_sec_readNumber_111 : cf_D k_sec_readNumber 111 (.getfield 56) 3 114 := ⟨by decide +kernel, rfl⟩
theorem d_sec_readNumber_114 : cf_D k_sec_readNumber 114 (.if_icmp .ne 5) 3 117 := ⟨by decide +kernel, rfl⟩
theorem d_sec_readNumber_117 : cf_D k_sec_readNumber 117 (.iconst 0) 1 118 := ⟨by decide +kernel, rfl⟩
theorem d_sec_readNumber_118 : cf_D k_sec_readNumber 118 (.ireturn) 1 119 := ⟨by decide +kernel, rfl⟩
theorem d_sec_readNumber_119 : cf_D k_sec_readNumber 119 (.aload_n 0) 1 120 := ⟨by decide +kernel, rfl⟩
theorem d_sec_readNumber_120 : cf_D k_sec_readNumber 120 (.aload_n 1) 1 121 := ⟨by decide +kernel, rfl⟩
theorem d_sec_readNumber_121 : cf_D k_sec_readNumber 121 (.iconst 2) 1 122 := ⟨by decide +kernel, rfl⟩
theorem d_sec_readNumber_122 : cf_D k_sec_readNumber 122 (.aload_n 0) 1 123 := ⟨by decide +kernel, rfl⟩
theorem d_sec_readNumber_123 : cf_D k_sec_readNumber 123 (.getfield 15) 3 126 := ⟨by decide +kernel, rfl⟩
theorem d_sec_readNumber_126 : cf_D k_sec_readNumber 126 (.aload_n 0) 1 127 := ⟨by decide +kernel, rfl⟩
theorem d_sec_readNumber_127 : cf_D k_sec_readNumber 127 (.getfield 81) 3 130 := ⟨by decide +kernel, rfl⟩
theorem d_sec_readNumber_130 : cf_D k_sec_readNumber 130 (.invokevirtual 21) 3 133 := ⟨by decide +kernel, rfl⟩
theorem d_sec_readNumber_133 : cf_D k_sec_readNumber 133 (.putfield 84) 3 136 := ⟨by decide +kernel, rfl⟩
theorem d_sec_readNumber_136 : cf_D k_sec_readNumber 136 (.aload_n 0) 1 137 := ⟨by decide +kernel, rfl⟩
theorem d_sec_readNumber_137 : cf_D k_sec_readNumber 137 (.aload_n 1) 1 138 := ⟨by decide +kernel, rfl⟩
theorem d_sec_readNumber_138 : cf_D k_sec_readNumber 138 (.iconst 2) 1 139 := ⟨by decide +kernel, rfl⟩
theorem d_sec_readNumber_139 : cf_D k_sec_readNumber 139 (.aload_n 0) 1 140 := ⟨by decide +kernel, rfl⟩
theorem d_sec_readNumber_140 : cf_D k_sec_readNumber 140 (.getfield 81) 3 143 := ⟨by decide +kernel, rfl⟩
theorem d_sec_readNumber_143 : cf_D k_sec_readNumber 143 (.aload_n 0) 1 144 := ⟨by decide +kernel, rfl⟩
theorem d_sec_readNumber_144 : cf_D k_sec_readNumber 144 (.getfield 56) 3 147 := ⟨by decide +kernel, rfl⟩
theorem d_sec_readNumber_147 : cf_D k_sec_readNumber 147 (.invokevirtual 21) 3 150 := ⟨by decide +kernel, rfl⟩
theorem d_sec_readNumber_150 : cf_D k_sec_readNumber 150 (.putfield 87) 3 153 := ⟨by decide +kernel, rfl⟩
theorem d_sec_readNumber_153 : cf_D k_sec_readNumber 153 (.aload_n 0) 1 154 := ⟨by decide +kernel, rfl⟩
theorem d_sec_readNumber_154 : cf_D k_sec_readNumber 154 (.aload_n 1) 1 155 := ⟨by decide +kernel, rfl⟩
theorem d_sec_readNumber_155 : cf_D k_sec_readNumber 155 (.iconst 2) 1 156 := ⟨by decide +kernel, rfl⟩
theorem d_sec_readNumber_156 : cf_D k_sec_readNumber 156 (.aload_n 0) 1 157 := ⟨by decide +kernel, rfl⟩
theorem d_sec_readNumber_157 : cf_D k_sec_readNumber 157 (.getfield 56) 3 160 := ⟨by decide +kernel, rfl⟩
theorem d_sec_readNumber_160 : cf_D k_sec_readNumber 160 (.aload_n 0) 1 161 := ⟨by decide +kernel, rfl⟩
theorem d_sec_readNumber_161 : cf_D k_sec_readNumber 161 (.getfield 18) 3 164 := ⟨by decide +kernel, rfl⟩
theorem d_sec_readNumber_164 : cf_D k_sec_readNumber 164 (.invokevirtual 21) 3 167 := ⟨by decide +kernel, rfl⟩
theorem d_sec_readNumber_167 : cf_D k_sec_readNumber 167 (.putfield 90) 3 170 := ⟨by decide +kernel, rfl⟩
theorem d_sec_readNumber_170 : cf_D k_sec_readNumber 170 (.aload_n 0) 1 171 := ⟨by decide +kernel, rfl⟩
theorem d_sec_readNumber_171 : cf_D k_sec_readNumber 171 (.invokevirtual 93) 3 174 := ⟨by decide +kernel, rfl⟩
theorem d_sec_readNumber_174 : cf_D k_sec_readNumber 174 (.ifCond .eq 19) 3 177 := ⟨by decide +kernel, rfl⟩
theorem d_sec_readNumber_177 : cf_D k_sec_readNumber 177 (.aload_n 0) 1 178 := ⟨by decide +kernel, rfl⟩
theorem d_sec_readNumber_178 : cf_D k_sec_readNumber 178 (.getfield 84) 3 181 := ⟨by decide +kernel, rfl⟩
theorem d_sec_readNumber_181 : cf_D k_sec_readNumber 181 (.ifCond .eq 10) 3 184 := ⟨by decide +kernel, rfl⟩
theorem d_sec_readNumber_184 : cf_D k_sec_readNumber 184 (.aload_n 0) 1 185 := ⟨by decide +kernel, rfl⟩
theorem d_sec_readNumber_185 : cf_D k_sec_readNumber 185 (.getfield 90) 3 188 := ⟨by decide +kernel, rfl⟩
theorem d_sec_readNumber_188 : cf_D k_sec_readNumber 188 (.ifCond .ne 5) 3 191 := ⟨by decide +kernel, rfl⟩
theorem d_sec_readNumber_191 : cf_D k_sec_readNumber 191 (.iconst 0) 1 192 := ⟨by decide +kernel, rfl⟩
theorem d_sec_readNumber_192 : cf_D k_sec_readNumber 192 (.ireturn) 1 193 := ⟨by decide +kernel, rfl⟩
theorem d_sec_readNumber_193 : cf_D k_sec_readNumber 193 (.aload_n 0) 1 194 := ⟨by decide +kernel, rfl⟩
theorem d_sec_readNumber_194 : cf_D k_sec_readNumber 194 (.aload_n 1) 1 195 := ⟨by decide +kernel, rfl⟩
theorem d_sec_readNumber_195 : cf_D k_sec_readNumber 195 (.invokevirtual 96) 3 198 := ⟨by decide +kernel, rfl⟩
theorem d_sec_readNumber_198 : cf_D k_sec_readNumber 198 (.ireturn) 1 199 := ⟨by decide +kernel, rfl⟩
theorem d_sec_hasExponent_0 : cf_D k_sec_hasExponent 0 (.aload_n 0) 1 1 := ⟨by decide +kernel, rfl⟩
theorem d_sec_hasExponent_1 : cf_D k_sec_hasExponent 1 (.getfield 56) 3 4 := ⟨by decide +kernel, rfl⟩
theorem d_sec_hasExponent_4 : cf_D k_sec_hasExponent 4 (.aload_n 0) 1 5 := ⟨by decide +kernel, rfl⟩
theorem d_sec_hasExponent_5 : cf_D k_sec_hasExponent 5 (.getfield 18) 3 8 := ⟨by decide +kernel, rfl⟩
theorem d_sec_hasExponent_8 : cf_D k_sec_hasExponent 8 (.if_icmp .ge 7) 3 11 := ⟨by decide +kernel, rfl⟩
theorem d_sec_hasExponent_11 : cf_D k_sec_hasExponent 11 (.iconst 1) 1 12 := ⟨by decide +kernel, rfl⟩
theorem d_sec_hasExponent_12 : cf_D k_sec_hasExponent 12 (.goto 4) 3 15 := ⟨by decide +kernel, rfl⟩
theorem d_sec_hasExponent_15 : cf_D k_sec_hasExponent 15 (.iconst 0) 1 16 := ⟨by decide +kernel, rfl⟩
theorem d_sec_hasExponent_16 : cf_D k_sec_hasExponent 16 (.ireturn) 1 17 := ⟨by decide +kernel, rfl⟩
theorem d_sec_readCommas_0 : cf_D k_sec_readCommas 0 (.aload_n 0) 1 1 := ⟨by decide +kernel, rfl⟩
theorem d_sec_readCommas_1 : cf_D k_sec_readCommas 1 (.iconst 0) 1 2 := ⟨by decide +kernel, rfl⟩
theorem d_sec_readCommas_2 : cf_D k_sec_readCommas 2 (.putfield 99) 3 5 := ⟨by decide +kernel, rfl⟩
theorem d_sec_readCommas_5 : cf_D k_sec_readCommas 5 (.aload_n 0) 1 6 := ⟨by decide +kernel, rfl⟩
theorem d_sec_readCommas_6 : cf_D k_sec_readCommas 6 (.iconst 0) 1 7 := ⟨by decide +kernel, rfl⟩
theorem d_sec_readCommas_7 : cf_D k_sec_readCommas 7 (.putfield 103) 3 10 := ⟨by decide +kernel, rfl⟩
theorem d_sec_readCommas_10 : cf_D k_sec_readCommas 10 (.aload_n 1) 1 11 := ⟨by decide +kernel, rfl⟩
theorem d_sec_readCommas_11 : cf_D k_sec_readCommas 11 (.iconst 2) 1 12 := ⟨by decide +kernel, rfl⟩
theorem d_sec_readCommas_12 : cf_D k_sec_readCommas 12 (.aload_n 0) 1 13 := ⟨by decide +kernel, rfl⟩
theorem d_sec_readCommas_13 : cf_D k_sec_readCommas 13 (.getfield 15) 3 16 := ⟨by decide +kernel, rfl⟩
theorem d_sec_readCommas_16 : cf_D k_sec_readCommas 16 (.aload_n 0) 1 17 := ⟨by decide +kernel, rfl⟩
theorem d_sec_readCommas_17 : cf_D k_sec_readCommas 17 (.getfield 81) 3 20 := ⟨by decide +kernel, rfl⟩
theorem d_sec_readCommas_20 : cf_D k_sec_readCommas 20 (.invokevirtual 78) 3 23 := ⟨by decide +kernel, rfl⟩
theorem d_sec_readCommas_23 : cf_D k_sec_readCommas 23 (.istore_n 2) 1 24 := ⟨by decide +kernel, rfl⟩
theorem d_sec_readCommas_24 : cf_D k_sec_readCommas 24 (.aload_n 1) 1 25 := ⟨by decide +kernel, rfl⟩
theorem d_sec_readCommas_25 : cf_D k_sec_readCommas 25 (.iconst 2) 1 26 := ⟨by decide +kernel, rfl⟩
theorem d_sec_readCommas_26 : cf_D k_sec_readCommas 26 (.aload_n 0) 1 27 := ⟨by decide +kernel, rfl⟩
theorem d_sec_readCommas_27 : cf_D k_sec_readCommas 27 (.getfield 15) 3 30 := ⟨by decide +kernel, rfl⟩
theorem d_sec_readCommas_30 : cf_D k_sec_readCommas 30 (.aload_n 0) 1 31 := ⟨by decide +kernel, rfl⟩
theorem d_sec_readCommas_31 : cf_D k_sec_readCommas 31 (.getfield 81) 3 34 := ⟨by decide +kernel, rfl⟩
theorem d_sec_readCommas_34 : cf_D k_sec_readCommas 34 (.invokevirtual 106) 3 37 := ⟨by decide +kernel, rfl⟩
theorem d_sec_readCommas_37 : cf_D k_sec_readCommas 37 (.istore_n 3) 1 38 := ⟨by decide +kernel, rfl⟩
theorem d_sec_readCommas_38 : cf_D k_sec_readCommas 38 (.aload_n 0) 1 39 := ⟨by decide +kernel, rfl⟩
theorem d_sec_readCommas_39 : cf_D k_sec_readCommas 39 (.getfield 15) 3 42 := ⟨by decide +kernel, rfl⟩
theorem d_sec_readCommas_42 : cf_D k_sec_readCommas 42 (.istore 4) 2 44 := ⟨by decide +kernel, rfl⟩
theorem d_sec_readCommas_44 : cf_D k_sec_readCommas 44 (.iload 4) 2 46 := ⟨by decide +kernel, rfl⟩
theorem d_sec_readCommas_46 : cf_D k_sec_readCommas 46 (.aload_n 0) 1 47 := ⟨by decide +kernel, rfl⟩
theorem d_sec_readCommas_47 : cf_D k_sec_readCommas 47 (.getfield 18) 3 50 := ⟨by decide +kernel, rfl⟩
theorem d_sec_readCommas_50 : cf_D k_sec_readCommas 50 (.if_icmp .ge 86) 3 53 := ⟨by decide +kernel, rfl⟩
theorem d_sec_readCommas_53 : cf_D k_sec_readCommas 53 (.aload_n 1) 1 54 := ⟨by decide +kernel, rfl⟩
theorem d_sec_readCommas_54 : cf_D k_sec_readCommas 54 (.iload 4) 2 56 := ⟨by decide +kernel, rfl⟩
theorem d_sec_readCommas_56 : cf_D k_sec_readCommas 56 (.invokevirtual 63) 3 59 := ⟨by decide +kernel, rfl⟩
theorem d_sec_readCommas_59 : cf_D k_sec_readCommas 59 (.iconst 4) 1 60 := ⟨by decide +kernel, rfl⟩
theorem d_sec_readCommas_60 : cf_D k_sec_readCommas 60 (.if_icmp .eq 6) 3 63 := ⟨by decide +kernel, rfl⟩
theorem d_sec_readCommas_63 : cf_D k_sec_readCommas 63 (.goto 67) 3 66 := ⟨by decide +kernel, rfl⟩
theorem d_sec_readCommas_66 : cf_D k_sec_readCommas 66 (.aload_n 0) 1 67 := ⟨by decide +kernel, rfl⟩
theorem d_sec_readCommas_67 : cf_D k_sec_readCommas 67 (.getfield 84) 3 70 := ⟨by decide +kernel, rfl⟩
theorem d_sec_readCommas_70 : cf_D k_sec_readCommas 70 (.ifCond .eq 10) 3 73 := ⟨by decide +kernel, rfl⟩
theorem d_sec_readCommas_73 : cf_D k_sec_readCommas 73 (.aload_n 0) 1 74 := ⟨by decide +kernel, rfl⟩
theorem d_sec_readCommas_74 : cf_D k_sec_readCommas 74 (.invokevirtual 93) 3 77 := ⟨by decide +kernel, rfl⟩
theorem d_sec_readCommas_77 : cf_D k_sec_readCommas 77 (.ifCond .eq 5) 3 80 := ⟨by decide +kernel, rfl⟩
theorem d_sec_readCommas_80 : cf_D k_sec_readCommas 80 (.iconst 0) 1 81 := ⟨by decide +kernel, rfl⟩
theorem d_sec_readCommas_81 : cf_D k_sec_readCommas 81 (.ireturn) 1 82 := ⟨by decide +kernel, rfl⟩
theorem d_sec_readCommas_82 : cf_D k_sec_readCommas 82 (.iload 4) 2 84 := ⟨by decide +kernel, rfl⟩
theorem d_sec_readCommas_84 : cf_D k_sec_readCommas 84 (.iload_n 2) 1 85 := ⟨by decide +kernel, rfl⟩
theorem d_sec_readCommas_85 : cf_D k_sec_readCommas 85 (.if_icmp .le 17) 3 88 := ⟨by decide +kernel, rfl⟩
theorem d_sec_readCommas_88 : cf_D k_sec_readCommas 88 (.iload 4) 2 90 := ⟨by decide +kernel, rfl⟩
theorem d_sec_readCommas_90 : cf_D k_sec_readCommas 90 (.iload_n 3) 1 91 := ⟨by decide +kernel, rfl⟩
theorem d_sec_readCommas_91 : cf_D k_sec_readCommas 91 (.if_icmp .ge 11) 3 94 := ⟨by decide +kernel, rfl⟩
theorem d_sec_readCommas_94 : cf_D k_sec_readCommas 94 (.aload_n 0) 1 95 := ⟨by decide +kernel, rfl⟩
theorem d_sec_readCommas_95 : cf_D k_sec_readCommas 95 (.iconst 1) 1 96 := ⟨by decide +kernel, rfl⟩
theorem d_sec_readCommas_96 : cf_D k_sec_readCommas 96 (.putfield 99) 3 99 := ⟨by decide +kernel, rfl⟩
theorem d_sec_readCommas_99 : cf_D k_sec_readCommas 99 (.goto 31) 3 102 := ⟨by decide +kernel, rfl⟩
theorem d_sec_readCommas_102 : cf_D k_sec_readCommas 102 (.iload 4) 2 104 := ⟨by decide +kernel, rfl⟩
theorem d_sec_readCommas_104 : cf_D k_sec_readCommas 104 (.iload_n 3) 1 105 := ⟨by decide +kernel, rfl⟩
theorem d_sec_readCommas_105 : cf_D k_sec_readCommas 105 (.iconst 1) 1 106 := ⟨by decide +kernel, rfl⟩
theorem d_sec_readCommas_106 : cf_D k_sec_readCommas 106 (.iadd) 1 107 := ⟨by decide +kernel, rfl⟩
theorem d_sec_readCommas_107 : cf_D k_sec_readCommas 107 (.aload_n 0) 1 108 := ⟨by decide +kernel, rfl⟩
theorem d_sec_readCommas_108 : cf_D k_sec_readCommas 108 (.getfield 103) 3 111 := ⟨by decide +kernel, rfl⟩
theorem d_sec_readCommas_111 : cf_D k_sec_readCommas 111 (.iadd) 1 112 := ⟨by decide +kernel, rfl⟩
theorem d_sec_readCommas_112 : cf_D k_sec_readCommas 112 (.if_icmp .ne 16) 3 115 := ⟨by decide +kernel, rfl⟩
theorem d_sec_readCommas_115 : cf_D k_sec_readCommas 115 (.aload_n 0) 1 116 := ⟨by decide +kernel, rfl⟩
theorem d_sec_readCommas_116 : cf_D k_sec_readCommas 116 (.dup) 1 117 := ⟨by decide +kernel, rfl⟩
theorem d_sec_readCommas_117 : cf_D k_sec_readCommas 117 (.getfield 103) 3 120 := ⟨by decide +kernel, rfl⟩
theorem d_sec_readCommas_120 : cf_D k_sec_readCommas 120 (.iconst 1) 1 121 := ⟨by decide +kernel, rfl⟩
theorem d_sec_readCommas_121 : cf_D k_sec_readCommas 121 (.iadd) 1 122 := ⟨by decide +kernel, rfl⟩
theorem d_sec_readCommas_122 : cf_D k_sec_readCommas 122 (.putfield 103) 3 125 := ⟨by decide +kernel, rfl⟩
theorem d_sec_readCommas_125 : cf_D k_sec_readCommas 125 (.goto 5) 3 128 := ⟨by decide +kernel, rfl⟩
theorem d_sec_readCommas_128 : cf_D k_sec_readCommas 128 (.iconst 0) 1 129 := ⟨by decide +kernel, rfl⟩
theorem d_sec_readCommas_129 : cf_D k_sec_readCommas 129 (.ireturn) 1 130 := ⟨by decide +kernel, rfl⟩
theorem d_sec_readCommas_130 : cf_D k_sec_readCommas 130 (.iinc 4 1) 3 133 := ⟨by decide +kernel, rfl⟩
theorem d_sec_readCommas_133 : cf_D k_sec_readCommas 133 (.goto (-89)) 3 136 := ⟨by decide +kernel, rfl⟩
theorem d_sec_readCommas_136 : cf_D k_sec_readCommas 136 (.iconst 1) 1 137 := ⟨by decide +kernel, rfl⟩
theorem d_sec_readCommas_137 : cf_D k_sec_readCommas 137 (.ireturn) 1 138 := ⟨by decide +kernel, rfl⟩
theorem d_tok_findLast_0 : cf_D k_tok_findLast 0 (.iload_n 3) 1 1 := ⟨by decide +kernel, rfl⟩
theorem d_tok_findLast_1 : cf_D k_tok_findLast 1 (.iconst 1) 1 2 := ⟨by decide +kernel, rfl⟩
theorem d_tok_findLast_2 : cf_D k_tok_findLast 2 (.isub) 1 3 := ⟨by decide +kernel, rfl⟩
theorem d_tok_findLast_3 : cf_D k_tok_findLast 3 (.istore 4) 2 5 := ⟨by decide +kernel, rfl⟩
theorem d_tok_findLast_5 : cf_D k_tok_findLast 5 (.iload 4) 2 7 := ⟨by decide +kernel, rfl⟩
theorem d_tok_findLast_7 : cf_D k_tok_findLast 7 (.iload_n 2) 1 8 := ⟨by decide +kernel, rfl⟩
theorem d_tok_findLast_8 : cf_D k_tok_findLast 8 (.if_icmp .lt 22) 3 11 := ⟨by decide +kernel, rfl⟩
theorem d_tok_findLast_11 : cf_D k_tok_findLast 11 (.aload_n 0) 1 12 := ⟨by decide +kernel, rfl⟩
theorem d_tok_findLast_12 : cf_D k_tok_findLast 12 (.iload 4) 2 14 := ⟨by decide +kernel, rfl⟩
theorem d_tok_findLast_14 : cf_D k_tok_findLast 14 (.invokevirtual 25) 3 17 := ⟨by decide +kernel, rfl⟩
theorem d_tok_findLast_17 : cf_D k_tok_findLast 17 (.iload_n 1) 1 18 := ⟨by decide +kernel, rfl⟩
end
section
/-! decode rows -/
theorem d_tok_findLast_18 : cf_D k_tok_findLast 18 (.if_icmp .ne 6) 3 21 := ⟨by decide +kernel, rfl⟩
theorem d_tok_findLast_21 : cf_D k_tok_findLast 21 (.iload 4) 2 23 := ⟨by decide +kernel, rfl⟩
theorem d_tok_findLast_23 : cf_D k_tok_findLast 23 (.ireturn) 1 24 := ⟨by decide +kernel, rfl⟩
theorem d_tok_findLast_24 : cf_D k_tok_findLast 24 (.iinc 4 (-1)) 3 27 := ⟨by decide +kernel, rfl⟩
theorem d_tok_findLast_27 : cf_D k_tok_findLast 27 (.goto (-22)) 3 30 := ⟨by decide +kernel, rfl⟩
theorem d_tok_findLast_30 : cf_D k_tok_findLast 30 (.iload_n 2) 1 31 := ⟨by decide +kernel, rfl⟩
theorem d_tok_findLast_31 : cf_D k_tok_findLast 31 (.iconst 1) 1 32 := ⟨by decide +kernel, rfl⟩
theorem d_tok_findLast_32 : cf_D k_tok_findLast 32 (.isub) 1 33 := ⟨by decide +kernel, rfl⟩
theorem d_tok_findLast_33 : cf_D k_tok_findLast 33 (.ireturn) 1 34 := ⟨by decide +kernel, rfl⟩
theorem d_sec_readFields_0 : cf_D k_sec_readFields 0 (.aload_n 0) 1 1 := ⟨by decide +kernel, rfl⟩
theorem d_sec_readFields_1 : cf_D k_sec_readFields 1 (.aload_n 1) 1 2 := ⟨by decide +kernel, rfl⟩
theorem d_sec_readFields_2 : cf_D k_sec_readFields 2 (.bipush 10) 2 4 := ⟨by decide +kernel, rfl⟩
theorem d_sec_readFields_4 : cf_D k_sec_readFields 4 (.aload_n 0) 1 5 := ⟨by decide +kernel, rfl⟩
theorem d_sec_readFields_5 : cf_D k_sec_readFields 5 (.getfield 15) 3 8 := ⟨by decide +kernel, rfl⟩
theorem d_sec_readFields_8 : cf_D k_sec_readFields 8 (.aload_n 0) 1 9 := ⟨by decide +kernel, rfl⟩
theorem d_sec_readFields_9 : cf_D k_sec_readFields 9 (.getfield 18) 3 12 := ⟨by decide +kernel, rfl⟩
theorem d_sec_readFields_12 : cf_D k_sec_readFields 12 (.invokevirtual 21) 3 15 := ⟨by decide +kernel, rfl⟩
theorem d_sec_readFields_15 : cf_D k_sec_readFields 15 (.ifCond .le 7) 3 18 := ⟨by decide +kernel, rfl⟩
theorem d_sec_readFields_18 : cf_D k_sec_readFields 18 (.iconst 1) 1 19 := ⟨by decide +kernel, rfl⟩
theorem d_sec_readFields_19 : cf_D k_sec_readFields 19 (.goto 4) 3 22 := ⟨by decide +kernel, rfl⟩
theorem d_sec_readFields_22 : cf_D k_sec_readFields 22 (.iconst 0) 1 23 := ⟨by decide +kernel, rfl⟩
theorem d_sec_readFields_23 : cf_D k_sec_readFields 23 (.putfield 109) 3 26 := ⟨by decide +kernel, rfl⟩
theorem d_sec_readFields_26 : cf_D k_sec_readFields 26 (.aload_n 0) 1 27 := ⟨by decide +kernel, rfl⟩
theorem d_sec_readFields_27 : cf_D k_sec_readFields 27 (.iconst 0) 1 28 := ⟨by decide +kernel, rfl⟩
theorem d_sec_readFields_28 : cf_D k_sec_readFields 28 (.putfield 112) 3 31 := ⟨by decide +kernel, rfl⟩
theorem d_sec_readFields_31 : cf_D k_sec_readFields 31 (.aload_n 0) 1 32 := ⟨by decide +kernel, rfl⟩
theorem d_sec_readFields_32 : cf_D k_sec_readFields 32 (.getfield 15) 3 35 := ⟨by decide +kernel, rfl⟩
theorem d_sec_readFields_35 : cf_D k_sec_readFields 35 (.istore_n 2) 1 36 := ⟨by decide +kernel, rfl⟩
theorem d_sec_readFields_36 : cf_D k_sec_readFields 36 (.iload_n 2) 1 37 := ⟨by decide +kernel, rfl⟩
theorem d_sec_readFields_37 : cf_D k_sec_readFields 37 (.aload_n 0) 1 38 := ⟨by decide +kernel, rfl⟩
theorem d_sec_readFields_38 : cf_D k_sec_readFields 38 (.getfield 18) 3 41 := ⟨by decide +kernel, rfl⟩
theorem d_sec_readFields_41 : cf_D k_sec_readFields 41 (.if_icmp .ge 110) 3 44 := ⟨by decide +kernel, rfl⟩
theorem d_sec_readFields_44 : cf_D k_sec_readFields 44 (.aload_n 1) 1 45 := ⟨by decide +kernel, rfl⟩
theorem d_sec_readFields_45 : cf_D k_sec_readFields 45 (.iload_n 2) 1 46 := ⟨by decide +kernel, rfl⟩
theorem d_sec_readFields_46 : cf_D k_sec_readFields 46 (.invokevirtual 63) 3 49 := ⟨by decide +kernel, rfl⟩
theorem d_sec_readFields_49 : cf_D k_sec_readFields 49 (.bipush 8) 2 51 := ⟨by decide +kernel, rfl⟩
theorem d_sec_readFields_51 : cf_D k_sec_readFields 51 (.if_icmp .eq 6) 3 54 := ⟨by decide +kernel, rfl⟩
theorem d_sec_readFields_54 : cf_D k_sec_readFields 54 (.goto 91) 3 57 := ⟨by decide +kernel, rfl⟩
theorem d_sec_readFields_57 : cf_D k_sec_readFields 57 (.aload_n 1) 1 58 := ⟨by decide +kernel, rfl⟩
theorem d_sec_readFields_58 : cf_D k_sec_readFields 58 (.iload_n 2) 1 59 := ⟨by decide +kernel, rfl⟩
theorem d_sec_readFields_59 : cf_D k_sec_readFields 59 (.invokevirtual 70) 3 62 := ⟨by decide +kernel, rfl⟩
theorem d_sec_readFields_62 : cf_D k_sec_readFields 62 (.istore_n 3) 1 63 := ⟨by decide +kernel, rfl⟩
theorem d_sec_readFields_63 : cf_D k_sec_readFields 63 (.aload_n 0) 1 64 := ⟨by decide +kernel, rfl⟩
theorem d_sec_readFields_64 : cf_D k_sec_readFields 64 (.aload_n 1) 1 65 := ⟨by decide +kernel, rfl⟩
theorem d_sec_readFields_65 : cf_D k_sec_readFields 65 (.iload_n 2) 1 66 := ⟨by decide +kernel, rfl⟩
theorem d_sec_readFields_66 : cf_D k_sec_readFields 66 (.invokevirtual 115) 3 69 := ⟨by decide +kernel, rfl⟩
theorem d_sec_readFields_69 : cf_D k_sec_readFields 69 (.bipush 104) 2 71 := ⟨by decide +kernel, rfl⟩
theorem d_sec_readFields_71 : cf_D k_sec_readFields 71 (.if_icmp .eq 14) 3 74 := ⟨by decide +kernel, rfl⟩
theorem d_sec_readFields_74 : cf_D k_sec_readFields 74 (.aload_n 0) 1 75 := ⟨by decide +kernel, rfl⟩
theorem d_sec_readFields_75 : cf_D k_sec_readFields 75 (.aload_n 1) 1 76 := ⟨by decide +kernel, rfl⟩
theorem d_sec_readFields_76 : cf_D k_sec_readFields 76 (.iload_n 2) 1 77 := ⟨by decide +kernel, rfl⟩
theorem d_sec_readFields_77 : cf_D k_sec_readFields 77 (.invokevirtual 119) 3 80 := ⟨by decide +kernel, rfl⟩
theorem d_sec_readFields_80 : cf_D k_sec_readFields 80 (.bipush 115) 2 82 := ⟨by decide +kernel, rfl⟩
theorem d_sec_readFields_82 : cf_D k_sec_readFields 82 (.if_icmp .ne 7) 3 85 := ⟨by decide +kernel, rfl⟩
theorem d_sec_readFields_85 : cf_D k_sec_readFields 85 (.iconst 1) 1 86 := ⟨by decide +kernel, rfl⟩
theorem d_sec_readFields_86 : cf_D k_sec_readFields 86 (.goto 4) 3 89 := ⟨by decide +kernel, rfl⟩
theorem d_sec_readFields_89 : cf_D k_sec_readFields 89 (.iconst 0) 1 90 := ⟨by decide +kernel, rfl⟩
theorem d_sec_readFields_90 : cf_D k_sec_readFields 90 (.istore 4) 2 92 := ⟨by decide +kernel, rfl⟩
theorem d_sec_readFields_92 : cf_D k_sec_readFields 92 (.iload_n 3) 1 93 := ⟨by decide +kernel, rfl⟩
theorem d_sec_readFields_93 : cf_D k_sec_readFields 93 (.bipush 109) 2 95 := ⟨by decide +kernel, rfl⟩
theorem d_sec_readFields_95 : cf_D k_sec_readFields 95 (.if_icmp .ne 27) 3 98 := ⟨by decide +kernel, rfl⟩
theorem d_sec_readFields_98 : cf_D k_sec_readFields 98 (.aload_n 1) 1 99 := ⟨by decide +kernel, rfl⟩
theorem d_sec_readFields_99 : cf_D k_sec_readFields 99 (.iload_n 2) 1 100 := ⟨by decide +kernel, rfl⟩
theorem d_sec_readFields_100 : cf_D k_sec_readFields 100 (.invokevirtual 67) 3 103 := ⟨by decide +kernel, rfl⟩
theorem d_sec_readFields_103 : cf_D k_sec_readFields 103 (.iconst 2) 1 104 := ⟨by decide +kernel, rfl⟩
theorem d_sec_readFields_104 : cf_D k_sec_readFields 104 (.if_icmp .gt 18) 3 107 := ⟨by decide +kernel, rfl⟩
theorem d_sec_readFields_107 : cf_D k_sec_readFields 107 (.iload 4) 2 109 := ⟨by decide +kernel, rfl⟩
theorem d_sec_readFields_109 : cf_D k_sec_readFields 109 (.ifCond .eq 13) 3 112 := ⟨by decide +kernel, rfl⟩
theorem d_sec_readFields_112 : cf_D k_sec_readFields 112 (.aload_n 1) 1 113 := ⟨by decide +kernel, rfl⟩
theorem d_sec_readFields_113 : cf_D k_sec_readFields 113 (.iload_n 2) 1 114 := ⟨by decide +kernel, rfl⟩
theorem d_sec_readFields_114 : cf_D k_sec_readFields 114 (.bipush 110) 2 116 := ⟨by decide +kernel, rfl⟩
theorem d_sec_readFields_116 : cf_D k_sec_readFields 116 (.invokevirtual 122) 3 119 := ⟨by decide +kernel, rfl⟩
theorem d_sec_readFields_119 : cf_D k_sec_readFields 119 (.goto 26) 3 122 := ⟨by decide +kernel, rfl⟩
theorem d_sec_readFields_122 : cf_D k_sec_readFields 122 (.iload_n 3) 1 123 := ⟨by decide +kernel, rfl⟩
theorem d_sec_readFields_123 : cf_D k_sec_readFields 123 (.bipush 121) 2 125 := ⟨by decide +kernel, rfl⟩
theorem d_sec_readFields_125 : cf_D k_sec_readFields 125 (.if_icmp .eq 15) 3 128 := ⟨by decide +kernel, rfl⟩
theorem d_sec_readFields_128 : cf_D k_sec_readFields 128 (.iload_n 3) 1 129 := ⟨by decide +kernel, rfl⟩
theorem d_sec_readFields_129 : cf_D k_sec_readFields 129 (.bipush 109) 2 131 := ⟨by decide +kernel, rfl⟩
theorem d_sec_readFields_131 : cf_D k_sec_readFields 131 (.if_icmp .eq 9) 3 134 := ⟨by decide +kernel, rfl⟩
theorem d_sec_readFields_134 : cf_D k_sec_readFields 134 (.iload_n 3) 1 135 := ⟨by decide +kernel, rfl⟩
theorem d_sec_readFields_135 : cf_D k_sec_readFields 135 (.bipush 100) 2 137 := ⟨by decide +kernel, rfl⟩
theorem d_sec_readFields_137 : cf_D k_sec_readFields 137 (.if_icmp .ne 8) 3 140 := ⟨by decide +kernel, rfl⟩
theorem d_sec_readFields_140 : cf_D k_sec_readFields 140 (.aload_n 0) 1 141 := ⟨by decide +kernel, rfl⟩
theorem d_sec_readFields_141 : cf_D k_sec_readFields 141 (.iconst 1) 1 142 := ⟨by decide +kernel, rfl⟩
theorem d_sec_readFields_142 : cf_D k_sec_readFields 142 (.putfield 112) 3 145 := ⟨by decide +kernel, rfl⟩
theorem d_sec_readFields_145 : cf_D k_sec_readFields 145 (.iinc 2 1) 3 148 := ⟨by decide +kernel, rfl⟩
theorem d_sec_readFields_148 : cf_D k_sec_readFields 148 (.goto (-112)) 3 151 := ⟨by decide +kernel, rfl⟩
theorem d_sec_readFields_151 : cf_D k_sec_readFields 151 (.return_) 1 152 := ⟨by decide +kernel, rfl⟩
theorem d_sec_letterBefore_0 : cf_D k_sec_letterBefore 0 (.iload_n 2) 1 1 := ⟨by decide +kernel, rfl⟩
theorem d_sec_letterBefore_1 : cf_D k_sec_letterBefore 1 (.iconst 1) 1 2 := ⟨by decide +kernel, rfl⟩
theorem d_sec_letterBefore_2 : cf_D k_sec_letterBefore 2 (.isub) 1 3 := ⟨by decide +kernel, rfl⟩
theorem d_sec_letterBefore_3 : cf_D k_sec_letterBefore 3 (.istore_n 3) 1 4 := ⟨by decide +kernel, rfl⟩
theorem d_sec_letterBefore_4 : cf_D k_sec_letterBefore 4 (.iload_n 3) 1 5 := ⟨by decide +kernel, rfl⟩
theorem d_sec_letterBefore_5 : cf_D k_sec_letterBefore 5 (.aload_n 0) 1 6 := ⟨by decide +kernel, rfl⟩
theorem d_sec_letterBefore_6 : cf_D k_sec_letterBefore 6 (.getfield 15) 3 9 := ⟨by decide +kernel, rfl⟩
theorem d_sec_letterBefore_9 : cf_D k_sec_letterBefore 9 (.if_icmp .lt 23) 3 12 := ⟨by decide +kernel, rfl⟩
theorem d_sec_letterBefore_12 : cf_D k_sec_letterBefore 12 (.aload_n 1) 1 13 := ⟨by decide +kernel, rfl⟩
theorem d_sec_letterBefore_13 : cf_D k_sec_letterBefore 13 (.iload_n 3) 1 14 := ⟨by decide +kernel, rfl⟩
theorem d_sec_letterBefore_14 : cf_D k_sec_letterBefore 14 (.invokevirtual 59) 3 17 := ⟨by decide +kernel, rfl⟩
theorem d_sec_letterBefore_17 : cf_D k_sec_letterBefore 17 (.ifCond .eq 9) 3 20 := ⟨by decide +kernel, rfl⟩
theorem d_sec_letterBefore_20 : cf_D k_sec_letterBefore 20 (.aload_n 1) 1 21 := ⟨by decide +kernel, rfl⟩
theorem d_sec_letterBefore_21 : cf_D k_sec_letterBefore 21 (.iload_n 3) 1 22 := ⟨by decide +kernel, rfl⟩
theorem d_sec_letterBefore_22 : cf_D k_sec_letterBefore 22 (.invokevirtual 70) 3 25 := ⟨by decide +kernel, rfl⟩
theorem d_sec_letterBefore_25 : cf_D k_sec_letterBefore 25 (.ireturn) 1 26 := ⟨by decide +kernel, rfl⟩
theorem d_sec_letterBefore_26 : cf_D k_sec_letterBefore 26 (.iinc 3 (-1)) 3 29 := ⟨by decide +kernel, rfl⟩
theorem d_sec_letterBefore_29 : cf_D k_sec_letterBefore 29 (.goto (-25)) 3 32 := ⟨by decide +kernel, rfl⟩
theorem d_sec_letterBefore_32 : cf_D k_sec_letterBefore 32 (.iconst 0) 1 33 := ⟨by decide +kernel, rfl⟩
theorem d_sec_letterBefore_33 : cf_D k_sec_letterBefore 33 (.ireturn) 1 34 := ⟨by decide +kernel, rfl⟩
theorem d_sec_letterBehind_0 : cf_D k_sec_letterBehind 0 (.iload_n 2) 1 1 := ⟨by decide +kernel, rfl⟩
theorem d_sec_letterBehind_1 : cf_D k_sec_letterBehind 1 (.iconst 1) 1 2 := ⟨by decide +kernel, rfl⟩
theorem d_sec_letterBehind_2 : cf_D k_sec_letterBehind 2 (.iadd) 1 3 := ⟨by decide +kernel, rfl⟩
theorem d_sec_letterBehind_3 : cf_D k_sec_letterBehind 3 (.istore_n 3) 1 4 := ⟨by decide +kernel, rfl⟩
theorem d_sec_letterBehind_4 : cf_D k_sec_letterBehind 4 (.iload_n 3) 1 5 := ⟨by decide +kernel, rfl⟩
theorem d_sec_letterBehind_5 : cf_D k_sec_letterBehind 5 (.aload_n 0) 1 6 := ⟨by decide +kernel, rfl⟩
theorem d_sec_letterBehind_6 : cf_D k_sec_letterBehind 6 (.getfield 18) 3 9 := ⟨by decide +kernel, rfl⟩
theorem d_sec_letterBehind_9 : cf_D k_sec_letterBehind 9 (.if_icmp .ge 23) 3 12 := ⟨by decide +kernel, rfl⟩
theorem d_sec_letterBehind_12 : cf_D k_sec_letterBehind 12 (.aload_n 1) 1 13 := ⟨by decide +kernel, rfl⟩
theorem d_sec_letterBehind_13 : cf_D k_sec_letterBehind 13 (.iload_n 3) 1 14 := ⟨by decide +kernel, rfl⟩
theorem d_sec_letterBehind_14 : cf_D k_sec_letterBehind 14 (.invokevirtual 59) 3 17 := ⟨by decide +kernel, rfl⟩
theorem d_sec_letterBehind_17 : cf_D k_sec_letterBehind 17 (.ifCond .eq 9) 3 20 := ⟨by decide +kernel, rfl⟩
theorem d_sec_letterBehind_20 : cf_D k_sec_letterBehind 20 (.aload_n 1) 1 21 := ⟨by decide +kernel, rfl⟩
theorem d_sec_letterBehind_21 : cf_D k_sec_letterBehind 21 (.iload_n 3) 1 22 := ⟨by decide +kernel, rfl⟩
theorem d_sec_letterBehind_22 : cf_D k_sec_letterBehind 22 (.invokevirtual 70) 3 25 := ⟨by decide +kernel, rfl⟩
theorem d_sec_letterBehind_25 : cf_D k_sec_letterBehind 25 (.ireturn) 1 26 := ⟨by decide +kernel, rfl⟩
theorem d_sec_letterBehind_26 : cf_D k_sec_letterBehind 26 (.iinc 3 1) 3 29 := ⟨by decide +kernel, rfl⟩
theorem d_sec_letterBehind_29 : cf_D k_sec_letterBehind 29 (.goto (-25)) 3 32 := ⟨by decide +kernel, rfl⟩
theorem d_sec_letterBehind_32 : cf_D k_sec_letterBehind 32 (.iconst 0) 1 33 := ⟨by decide +kernel, rfl⟩
theorem d_sec_letterBehind_33 : cf_D k_sec_letterBehind 33 (.ireturn) 1 34 := ⟨by decide +kernel, rfl⟩
theorem d_tok_setValue_0 : cf_D k_tok_setValue 0 (.iload_n 1) 1 1 := ⟨by decide +kernel, rfl⟩
theorem d_tok_setValue_1 : cf_D k_tok_setValue 1 (.ifCond .lt 18) 3 4 := ⟨by decide +kernel, rfl⟩
theorem d_tok_setValue_4 : cf_D k_tok_setValue 4 (.iload_n 1) 1 5 := ⟨by decide +kernel, rfl⟩
theorem d_tok_setValue_5 : cf_D k_tok_setValue 5 (.aload_n 0) 1 6 := ⟨by decide +kernel, rfl⟩
theorem d_tok_setValue_6 : cf_D k_tok_setValue 6 (.getfield 21) 3 9 := ⟨by decide +kernel, rfl⟩
theorem d_tok_setValue_9 : cf_D k_tok_setValue 9 (.if_icmp .ge 10) 3 12 := ⟨by decide +kernel, rfl⟩
theorem d_tok_setValue_12 : cf_D k_tok_setValue 12 (.aload_n 0) 1 13 := ⟨by decide +kernel, rfl⟩
theorem d_tok_setValue_13 : cf_D k_tok_setValue 13 (.getfield 15) 3 16 := ⟨by decide +kernel, rfl⟩
theorem d_tok_setValue_16 : cf_D k_tok_setValue 16 (.iload_n 1) 1 17 := ⟨by decide +kernel, rfl⟩
theorem d_tok_setValue_17 : cf_D k_tok_setValue 17 (.iload_n 2) 1 18 := ⟨by decide +kernel, rfl⟩
theorem d_tok_setValue_18 : cf_D k_tok_setValue 18 (.iastore) 1 19 := ⟨by decide +kernel, rfl⟩
theorem d_tok_setValue_19 : cf_D k_tok_setValue 19 (.return_) 1 20 := ⟨by decide +kernel, rfl⟩
theorem d_sec_hasNumberMarks_0 : cf_D k_sec_hasNumberMarks 0 (.aload_n 1) 1 1 := ⟨by decide +kernel, rfl⟩
theorem d_sec_hasNumberMarks_1 : cf_D k_sec_hasNumberMarks 1 (.iconst 3) 1 2 := ⟨by decide +kernel, rfl⟩
theorem d_sec_hasNumberMarks_2 : cf_D k_sec_hasNumberMarks 2 (.aload_n 0) 1 3 := ⟨by decide +kernel, rfl⟩
theorem d_sec_hasNumberMarks_3 : cf_D k_sec_hasNumberMarks 3 (.getfield 15) 3 6 := ⟨by decide +kernel, rfl⟩
theorem d_sec_hasNumberMarks_6 : cf_D k_sec_hasNumberMarks 6 (.aload_n 0) 1 7 := ⟨by decide +kernel, rfl⟩
theorem d_sec_hasNumberMarks_7 : cf_D k_sec_hasNumberMarks 7 (.getfield 18) 3 10 := ⟨by decide +kernel, rfl⟩
theorem d_sec_hasNumberMarks_10 : cf_D k_sec_hasNumberMarks 10 (.invokevirtual 21) 3 13 := ⟨by decide +kernel, rfl⟩
theorem d_sec_hasNumberMarks_13 : cf_D k_sec_hasNumberMarks 13 (.ifCond .gt 52) 3 16 := ⟨by decide +kernel, rfl⟩
theorem d_sec_hasNumberMarks_16 : cf_D k_sec_hasNumberMarks 16 (.aload_n 1) 1 17 := ⟨by decide +kernel, rfl⟩
theorem d_sec_hasNumberMarks_17 : cf_D k_sec_hasNumberMarks 17 (.iconst 4) 1 18 := ⟨by decide +kernel, rfl⟩
theorem d_sec_hasNumberMarks_18 : cf_D k_sec_hasNumberMarks 18 (.aload_n 0) 1 19 := ⟨by decide +kernel, rfl⟩
theorem d_sec_hasNumberMarks_19 : cf_D k_sec_hasNumberMarks 19 (.getfield 15) 3 22 := ⟨by decide +kernel, rfl⟩
theorem d_sec_hasNumberMarks_22 : cf_D k_sec_hasNumberMarks 22 (.aload_n 0) 1 23 := ⟨by decide +kernel, rfl⟩
theorem d_sec_hasNumberMarks_23 : cf_D k_sec_hasNumberMarks 23 (.getfield 18) 3 26 := ⟨by decide +kernel, rfl⟩
theorem d_sec_hasNumberMarks_26 : cf_D k_sec_hasNumberMarks 26 (.invokevirtual 21) 3 29 := ⟨by decide +kernel, rfl⟩
theorem d_sec_hasNumberMarks_29 : cf_D k_sec_hasNumberMarks 29 (.ifCond .gt 36) 3 32 := ⟨by decide +kernel, rfl⟩
theorem d_sec_hasNumberMarks_32 : cf_D k_sec_hasNumberMarks 32 (.aload_n 1) 1 33 := ⟨by decide +kernel, rfl⟩
theorem d_sec_hasNumberMarks_33 : cf_D k_sec_hasNumberMarks 33 (.iconst 5) 1 34 := ⟨by decide +kernel, rfl⟩
theorem d_sec_hasNumberMarks_34 : cf_D k_sec_hasNumberMarks 34 (.aload_n 0) 1 35 := ⟨by decide +kernel, rfl⟩
theorem d_sec_hasNumberMarks_35 : cf_D k_sec_hasNumberMarks 35 (.getfield 15) 3 38 := ⟨by decide +kernel, rfl⟩
theorem d_sec_hasNumberMarks_38 : cf_D k_sec_hasNumberMarks 38 (.aload_n 0) 1 39 := ⟨by decide +kernel, rfl⟩
theorem d_sec_hasNumberMarks_39 : cf_D k_sec_hasNumberMarks 39 (.getfield 18) 3 42 := ⟨by decide +kernel, rfl⟩
theorem d_sec_hasNumberMarks_42 : cf_D k_sec_hasNumberMarks 42 (.invokevirtual 21) 3 45 := ⟨by decide +kernel, rfl⟩
theorem d_sec_hasNumberMarks_45 : cf_D k_sec_hasNumberMarks 45 (.ifCond .gt 20) 3 48 := ⟨by decide +kernel, rfl⟩
theorem d_sec_hasNumberMarks_48 : cf_D k_sec_hasNumberMarks 48 (.aload_n 1) 1 49 := ⟨by decide +kernel, rfl⟩
theorem d_sec_hasNumberMarks_49 : cf_D k_sec_hasNumberMarks 49 (.bipush 6) 2 51 := ⟨by decide +kernel, rfl⟩
theorem d_sec_hasNumberMarks_51 : cf_D k_sec_hasNumberMarks 51 (.aload_n 0) 1 52 := ⟨by decide +kernel, rfl⟩
theorem d_sec_hasNumberMarks_52 : cf_D k_sec_hasNumberMarks 52 (.getfield 15) 3 55 := ⟨by decide +kernel, rfl⟩
theorem d_sec_hasNumberMarks_55 : cf_D k_sec_hasNumberMarks 55 (.aload_n 0) 1 56 := ⟨by decide +kernel, rfl⟩
theorem d_sec_hasNumberMarks_56 : cf_D k_sec_hasNumberMarks 56 (.getfield 18) 3 59 := ⟨by decide +kernel, rfl⟩
theorem d_sec_hasNumberMarks_59 : cf_D k_sec_hasNumberMarks 59 (.invokevirtual 21) 3 62 := ⟨by decide +kernel, rfl⟩
theorem d_sec_hasNumberMarks_62 : cf_D k_sec_hasNumberMarks 62 (.ifCond .le 7) 3 65 := ⟨by decide +kernel, rfl⟩
theorem d_sec_hasNumberMarks_65 : cf_D k_sec_hasNumberMarks 65 (.iconst 1) 1 66 := ⟨by decide +kernel, rfl⟩
theorem d_sec_hasNumberMarks_66 : cf_D k_sec_hasNumberMarks 66 (.goto 4) 3 69 := ⟨by decide +kernel, rfl⟩
theorem d_sec_hasNumberMarks_69 : cf_D k_sec_hasNumberMarks 69 (.iconst 0) 1 70 := ⟨by decide +kernel, rfl⟩
theorem d_sec_hasNumberMarks_70 : cf_D k_sec_hasNumberMarks 70 (.ireturn) 1 71 := ⟨by decide +kernel, rfl⟩
theorem d_sec_hasCondition_0 : cf_D k_sec_hasCondition 0 (.aload_n 0) 1 1 := ⟨by decide +kernel, rfl⟩
theorem d_sec_hasCondition_1 : cf_D k_sec_hasCondition 1 (.getfield 45) 3 4 := ⟨by decide +kernel, rfl⟩
theorem d_sec_hasCondition_4 : cf_D k_sec_hasCondition 4 (.ifCond .eq 7) 3 7 := ⟨by decide +kernel, rfl⟩
theorem d_sec_hasCondition_7 : cf_D k_sec_hasCondition 7 (.iconst 1) 1 8 := ⟨by decide +kernel, rfl⟩
theorem d_sec_hasCondition_8 : cf_D k_sec_hasCondition 8 (.goto 4) 3 11 := ⟨by decide +kernel, rfl⟩
theorem d_sec_hasCondition_11 : cf_D k_sec_hasCondition 11 (.iconst 0) 1 12 := ⟨by decide +kernel, rfl⟩
theorem d_sec_hasCondition_12 : cf_D k_sec_hasCondition 12 (.ireturn) 1 13 := ⟨by decide +kernel, rfl⟩
theorem d_fmt_sections_0 : cf_D k_fmt_sections 0 (.aload_n 0) 1 1 := ⟨by decide +kernel, rfl⟩
theorem d_fmt_sections_1 : cf_D k_fmt_sections 1 (.getfield 40) 3 4 := ⟨by decide +kernel, rfl⟩
theorem d_fmt_sections_4 : cf_D k_fmt_sections 4 (.ireturn) 1 5 := ⟨by decide +kernel, rfl⟩
theorem d_fmt_kind_0 : cf_D k_fmt_kind 0 (.iload_n 1) 1 1 := ⟨by decide +kernel, rfl⟩
theorem d_fmt_kind_1 : cf_D k_fmt_kind 1 (.ifCond .lt 23) 3 4 := ⟨by decide +kernel, rfl⟩
theorem d_fmt_kind_4 : cf_D k_fmt_kind 4 (.iload_n 1) 1 5 := ⟨by decide +kernel, rfl⟩
theorem d_fmt_kind_5 : cf_D k_fmt_kind 5 (.aload_n 0) 1 6 := ⟨by decide +kernel, rfl⟩
theorem d_fmt_kind_6 : cf_D k_fmt_kind 6 (.getfield 40) 3 9 := ⟨by decide +kernel, rfl⟩
theorem d_fmt_kind_9 : cf_D k_fmt_kind 9 (.if_icmp .ge 15) 3 12 := ⟨by decide +kernel, rfl⟩
theorem d_fmt_kind_12 : cf_D k_fmt_kind 12 (.aload_n 0) 1 13 := ⟨by decide +kernel, rfl⟩
theorem d_fmt_kind_13 : cf_D k_fmt_kind 13 (.getfield 35) 3 16 := ⟨by decide +kernel, rfl⟩
theorem d_fmt_kind_16 : cf_D k_fmt_kind 16 (.iload_n 1) 1 17 := ⟨by decide +kernel, rfl⟩
theorem d_fmt_kind_17 : cf_D k_fmt_kind 17 (.aaload) 1 18 := ⟨by decide +kernel, rfl⟩
theorem d_fmt_kind_18 : cf_D k_fmt_kind 18 (.getfield 97) 3 21 := ⟨by decide +kernel, rfl⟩
theorem d_fmt_kind_21 : cf_D k_fmt_kind 21 (.goto 5) 3 24 := ⟨by decide +kernel, rfl⟩
theorem d_fmt_kind_24 : cf_D k_fmt_kind 24 (.bipush (-3)) 2 26 := ⟨by decide +kernel, rfl⟩
theorem d_fmt_kind_26 : cf_D k_fmt_kind 26 (.ireturn) 1 27 := ⟨by decide +kernel, rfl⟩
theorem d_fmt_calendar_0 : cf_D k_fmt_calendar 0 (.aload_n 0) 1 1 := ⟨by decide +kernel, rfl⟩
theorem d_fmt_calendar_1 : cf_D k_fmt_calendar 1 (.getfield 50) 3 4 := ⟨by decide +kernel, rfl⟩
theorem d_fmt_calendar_4 : cf_D k_fmt_calendar 4 (.iload_n 1) 1 5 := ⟨by decide +kernel, rfl⟩
theorem d_fmt_calendar_5 : cf_D k_fmt_calendar 5 (.putfield 100) 3 8 := ⟨by decide +kernel, rfl⟩
theorem d_fmt_calendar_8 : cf_D k_fmt_calendar 8 (.return_) 1 9 := ⟨by decide +kernel, rfl⟩
theorem d_fmt_show_0 : cf_D k_fmt_show 0 (.aload_n 0) 1 1 := ⟨by decide +kernel, rfl⟩
theorem d_fmt_show_1 : cf_D k_fmt_show 1 (.getfield 57) 3 4 := ⟨by decide +kernel, rfl⟩
theorem d_fmt_show_4 : cf_D k_fmt_show 4 (.invokevirtual 103) 3 7 := ⟨by decide +kernel, rfl⟩
theorem d_fmt_show_7 : cf_D k_fmt_show 7 (.aload_n 0) 1 8 := ⟨by decide +kernel, rfl⟩
theorem d_fmt_show_8 : cf_D k_fmt_show 8 (.bipush (-3)) 2 10 := ⟨by decide +kernel, rfl⟩
theorem d_fmt_show_10 : cf_D k_fmt_show 10 (.putfield 61) 3 13 := ⟨by decide +kernel, rfl⟩
theorem d_fmt_show_13 : cf_D k_fmt_show 13 (.aload_n 0) 1 14 := ⟨by decide +kernel, rfl⟩
theorem d_fmt_show_14 : cf_D k_fmt_show 14 (.getfield 40) 3 17 := ⟨by decide +kernel, rfl⟩
theorem d_fmt_show_17 : cf_D k_fmt_show 17 (.ifCond .ne 6) 3 20 := ⟨by decide +kernel, rfl⟩
theorem d_fmt_show_20 : cf_D k_fmt_show 20 (.bipush (-2)) 2 22 := ⟨by decide +kernel, rfl⟩
theorem d_fmt_show_22 : cf_D k_fmt_show 22 (.ireturn) 1 23 := ⟨by decide +kernel, rfl⟩
theorem d_fmt_show_23 : cf_D k_fmt_show 23 (.lload_n 1) 1 24 := ⟨by decide +kernel, rfl⟩
theorem d_fmt_show_24 : cf_D k_fmt_show 24 (.ldc2_w 106) 3 27 := ⟨by decide +kernel, rfl⟩
theorem d_fmt_show_27 : cf_D k_fmt_show 27 (.lcmp) 1 28 := ⟨by decide +kernel, rfl⟩
theorem d_fmt_show_28 : cf_D k_fmt_show 28 (.ifCond .lt 11) 3 31 := ⟨by decide +kernel, rfl⟩
theorem d_fmt_show_31 : cf_D k_fmt_show 31 (.lload_n 1) 1 32 := ⟨by decide +kernel, rfl⟩
theorem d_fmt_show_32 : cf_D k_fmt_show 32 (.ldc2_w 108) 3 35 := ⟨by decide +kernel, rfl⟩
theorem d_fmt_show_35 : cf_D k_fmt_show 35 (.lcmp) 1 36 := ⟨by decide +kernel, rfl⟩
theorem d_fmt_show_36 : cf_D k_fmt_show 36 (.ifCond .le 6) 3 39 := ⟨by decide +kernel, rfl⟩
theorem d_fmt_show_39 : cf_D k_fmt_show 39 (.bipush (-3)) 2 41 := ⟨by decide +kernel, rfl⟩
theorem d_fmt_show_41 : cf_D k_fmt_show 41 (.ireturn) 1 42 := ⟨by decide +kernel, rfl⟩
theorem d_fmt_show_42 : cf_D k_fmt_show 42 (.aload_n 0) 1 43 := ⟨by decide +kernel, rfl⟩
theorem d_fmt_show_43 : cf_D k_fmt_show 43 (.lload_n 1) 1 44 := ⟨by decide +kernel, rfl⟩
theorem d_fmt_show_44 : cf_D k_fmt_show 44 (.invokevirtual 110) 3 47 := ⟨by decide +kernel, rfl⟩
theorem d_fmt_show_47 : cf_D k_fmt_show 47 (.istore_n 3) 1 48 := ⟨by decide +kernel, rfl⟩
theorem d_fmt_show_48 : cf_D k_fmt_show 48 (.iload_n 3) 1 49 := ⟨by decide +kernel, rfl⟩
theorem d_fmt_show_49 : cf_D k_fmt_show 49 (.ifCond .lt 12) 3 52 := ⟨by decide +kernel, rfl⟩
theorem d_fmt_show_52 : cf_D k_fmt_show 52 (.aload_n 0) 1 53 := ⟨by decide +kernel, rfl⟩
theorem d_fmt_show_53 : cf_D k_fmt_show 53 (.iload_n 3) 1 54 := ⟨by decide +kernel, rfl⟩
theorem d_fmt_show_54 : cf_D k_fmt_show 54 (.lload_n 1) 1 55 := ⟨by decide +kernel, rfl⟩
theorem d_fmt_show_55 : cf_D k_fmt_show 55 (.invokevirtual 114) 3 58 := ⟨by decide +kernel, rfl⟩
theorem d_fmt_show_58 : cf_D k_fmt_show 58 (.ifCond .ne 5) 3 61 := ⟨by decide +kernel, rfl⟩
theorem d_fmt_show_61 : cf_D k_fmt_show 61 (.iconst (-1)) 1 62 := ⟨by decide +kernel, rfl⟩
theorem d_fmt_show_62 : cf_D k_fmt_show 62 (.ireturn) 1 63 := ⟨by decide +kernel, rfl⟩
theorem d_fmt_show_63 : cf_D k_fmt_show 63 (.aload_n 0) 1 64 := ⟨by decide +kernel, rfl⟩
theorem d_fmt_show_64 : cf_D k_fmt_show 64 (.iload_n 3) 1 65 := ⟨by decide +kernel, rfl⟩
theorem d_fmt_show_65 : cf_D k_fmt_show 65 (.putfield 61) 3 68 := ⟨by decide +kernel, rfl⟩
theorem d_fmt_show_68 : cf_D k_fmt_show 68 (.aload_n 0) 1 69 := ⟨by decide +kernel, rfl⟩
theorem d_fmt_show_69 : cf_D k_fmt_show 69 (.getfield 57) 3 72 := ⟨by decide +kernel, rfl⟩
theorem d_fmt_show_72 : cf_D k_fmt_show 72 (.getfield 118) 3 75 := ⟨by decide +kernel, rfl⟩
theorem d_fmt_show_75 : cf_D k_fmt_show 75 (.ireturn) 1 76 := ⟨by decide +kernel, rfl⟩
theorem d_txt_clear_0 : cf_D k_txt_clear 0 (.aload_n 0) 1 1 := ⟨by decide +kernel, rfl⟩
theorem d_txt_clear_1 : cf_D k_txt_clear 1 (.iconst 0) 1 2 := ⟨by decide +kernel, rfl⟩
theorem d_txt_clear_2 : cf_D k_txt_clear 2 (.putfield 15) 3 5 := ⟨by decide +kernel, rfl⟩
theorem d_txt_clear_5 : cf_D k_txt_clear 5 (.return_) 1 6 := ⟨by decide +kernel, rfl⟩
theorem d_fmt_choosePart_0 : cf_D k_fmt_choosePart 0 (.aload_n 0) 1 1 := ⟨by decide +kernel, rfl⟩
theorem d_fmt_choosePart_1 : cf_D k_fmt_choosePart 1 (.getfield 43) 3 4 := ⟨by decide +kernel, rfl⟩
theorem d_fmt_choosePart_4 : cf_D k_fmt_choosePart 4 (.ifCond .eq 9) 3 7 := ⟨by decide +kernel, rfl⟩
theorem d_fmt_choosePart_7 : cf_D k_fmt_choosePart 7 (.aload_n 0) 1 8 := ⟨by decide +kernel, rfl⟩
theorem d_fmt_choosePart_8 : cf_D k_fmt_choosePart 8 (.lload_n 1) 1 9 := ⟨by decide +kernel, rfl⟩
theorem d_fmt_choosePart_9 : cf_D k_fmt_choosePart 9 (.invokevirtual 155) 3 12 := ⟨by decide +kernel, rfl⟩
theorem d_fmt_choosePart_12 : cf_D k_fmt_choosePart 12 (.ireturn) 1 13 := ⟨by decide +kernel, rfl⟩
theorem d_fmt_choosePart_13 : cf_D k_fmt_choosePart 13 (.aload_n 0) 1 14 := ⟨by decide +kernel, rfl⟩
theorem d_fmt_choosePart_14 : cf_D k_fmt_choosePart 14 (.getfield 40) 3 17 := ⟨by decide +kernel, rfl⟩
theorem d_fmt_choosePart_17 : cf_D k_fmt_choosePart 17 (.iconst 1) 1 18 := ⟨by decide +kernel, rfl⟩
theorem d_fmt_choosePart_18 : cf_D k_fmt_choosePart 18 (.if_icmp .eq 9) 3 21 := ⟨by decide +kernel, rfl⟩
theorem d_fmt_choosePart_21 : cf_D k_fmt_choosePart 21 (.lload_n 1) 1 22 := ⟨by decide +kernel, rfl⟩
theorem d_fmt_choosePart_22 : cf_D k_fmt_choosePart 22 (.lconst 0) 1 23 := ⟨by decide +kernel, rfl⟩
theorem d_fmt_choosePart_23 : cf_D k_fmt_choosePart 23 (.lcmp) 1 24 := ⟨by decide +kernel, rfl⟩
theorem d_fmt_choosePart_24 : cf_D k_fmt_choosePart 24 (.ifCond .le 5) 3 27 := ⟨by decide +kernel, rfl⟩
theorem d_fmt_choosePart_27 : cf_D k_fmt_choosePart 27 (.iconst 0) 1 28 := ⟨by decide +kernel, rfl⟩
theorem d_fmt_choosePart_28 : cf_D k_fmt_choosePart 28 (.ireturn) 1 29 := ⟨by decide +kernel, rfl⟩
theorem d_fmt_choosePart_29 : cf_D k_fmt_choosePart 29 (.lload_n 1) 1 30 := ⟨by decide +kernel, rfl⟩
theorem d_fmt_choosePart_30 : cf_D k_fmt_choosePart 30 (.lconst 0) 1 31 := ⟨by decide +kernel, rfl⟩
theorem d_fmt_choosePart_31 : cf_D k_fmt_choosePart 31 (.lcmp) 1 32 := ⟨by decide +kernel, rfl⟩
theorem d_fmt_choosePart_32 : cf_D k_fmt_choosePart 32 (.ifCond .ge 5) 3 35 := ⟨by decide +kernel, rfl⟩
theorem d_fmt_choosePart_35 : cf_D k_fmt_choosePart 35 (.iconst 1) 1 36 := ⟨by decide +kernel, rfl⟩
theorem d_fmt_choosePart_36 : cf_D k_fmt_choosePart 36 (.ireturn) 1 37 := ⟨by decide +kernel, rfl⟩
theorem d_fmt_choosePart_37 : cf_D k_fmt_choosePart 37 (.aload_n 0) 1 38 := ⟨by decide +kernel, rfl⟩
theorem d_fmt_choosePart_38 : cf_D k_fmt_choosePart 38 (.getfield 40) 3 41 := ⟨by decide +kernel, rfl⟩
theorem d_fmt_choosePart_41 : cf_D k_fmt_choosePart 41 (.iconst 3) 1 42 := ⟨by decide +kernel, rfl⟩
theorem d_fmt_choosePart_42 : cf_D k_fmt_choosePart 42 (.if_icmp .ne 7) 3 45 := ⟨by decide +kernel, rfl⟩
theorem d_fmt_choosePart_45 : cf_D k_fmt_choosePart 45 (.iconst 2) 1 46 := ⟨by decide +kernel, rfl⟩
theorem d_fmt_choosePart_46 : cf_D k_fmt_choosePart 46 (.goto 4) 3 49 := ⟨by decide +kernel, rfl⟩
theorem d_fmt_choosePart_49 : cf_D k_fmt_choosePart 49 (.iconst 0) 1 50 := ⟨by decide +kernel, rfl⟩
theorem d_fmt_choosePart_50 : cf_D k_fmt_choosePart 50 (.ireturn) 1 51 := ⟨by decide +kernel, rfl⟩
theorem d_fmt_chooseByCondition_0 : cf_D k_fmt_chooseByCondition 0 (.iconst 0) 1 1 := ⟨by decide +kernel, rfl⟩
theorem d_fmt_chooseByCondition_1 : cf_D k_fmt_chooseByCondition 1 (.istore_n 3) 1 2 := ⟨by decide +kernel, rfl⟩
theorem d_fmt_chooseByCondition_2 : cf_D k_fmt_chooseByCondition 2 (.iload_n 3) 1 3 := ⟨by decide +kernel, rfl⟩
theorem d_fmt_chooseByCondition_3 : cf_D k_fmt_chooseByCondition 3 (.aload_n 0) 1 4 := ⟨by decide +kernel, rfl⟩
theorem d_fmt_chooseByCondition_4 : cf_D k_fmt_chooseByCondition 4 (.getfield 40) 3 7 := ⟨by decide +kernel, rfl⟩
theorem d_fmt_chooseByCondition_7 : cf_D k_fmt_chooseByCondition 7 (.if_icmp .ge 24) 3 10 := ⟨by decide +kernel, rfl⟩
theorem d_fmt_chooseByCondition_10 : cf_D k_fmt_chooseByCondition 10 (.aload_n 0) 1 11 := ⟨by decide +kernel, rfl⟩
theorem d_fmt_chooseByCondition_11 : cf_D k_fmt_chooseByCondition 11 (.getfield 35) 3 14 := ⟨by decide +kernel, rfl⟩
theorem d_fmt_chooseByCondition_14 : cf_D k_fmt_chooseByCondition 14 (.iload_n 3) 1 15 := ⟨by decide +kernel, rfl⟩
theorem d_fmt_chooseByCondition_15 : cf_D k_fmt_chooseByCondition 15 (.aaload) 1 16 := ⟨by decide +kernel, rfl⟩
theorem d_fmt_chooseByCondition_16 : cf_D k_fmt_chooseByCondition 16 (.lload_n 1) 1 17 := ⟨by decide +kernel, rfl⟩
theorem d_fmt_chooseByCondition_17 : cf_D k_fmt_chooseByCondition 17 (.invokevirtual 158) 3 20 := ⟨by decide +kernel, rfl⟩
theorem d_fmt_chooseByCondition_20 : cf_D k_fmt_chooseByCondition 20 (.ifCond .eq 5) 3 23 := ⟨by decide +kernel, rfl⟩
theorem d_fmt_chooseByCondition_23 : cf_D k_fmt_chooseByCondition 23 (.iload_n 3) 1 24 := ⟨by decide +kernel, rfl⟩
theorem d_fmt_chooseByCondition_24 : cf_D k_fmt_chooseByCondition 24 (.ireturn) 1 25 := ⟨by decide +kernel, rfl⟩
theorem d_fmt_chooseByCondition_25 : cf_D k_fmt_chooseByCondition 25 (.iinc 3 1) 3 28 := ⟨by decide +kernel, rfl⟩
theorem d_fmt_chooseByCondition_28 : cf_D k_fmt_chooseByCondition 28 (.goto (-26)) 3 31 := ⟨by decide +kernel, rfl⟩
theorem d_fmt_chooseByCondition_31 : cf_D k_fmt_chooseByCondition 31 (.iconst (-1)) 1 32 := ⟨by decide +kernel, rfl⟩
theorem d_fmt_chooseByCondition_32 : cf_D k_fmt_chooseByCondition 32 (.ireturn) 1 33 := ⟨by decide +kernel, rfl⟩
theorem d_sec_admits_0 : cf_D k_sec_admits 0 (.aload_n 0) 1 1 := ⟨by decide +kernel, rfl⟩
theorem d_sec_admits_1 : cf_D k_sec_admits 1 (.invokevirtual 48) 3 4 := ⟨by decide +kernel, rfl⟩
theorem d_sec_admits_4 : cf_D k_sec_admits 4 (.ifCond .ne 5) 3 7 := ⟨by decide +kernel, rfl⟩
theorem d_sec_admits_7 : cf_D k_sec_admits 7 (.iconst 1) 1 8 := ⟨by decide +kernel, rfl⟩
theorem d_sec_admits_8 : cf_D k_sec_admits 8 (.ireturn) 1 9 := ⟨by decide +kernel, rfl⟩
theorem d_sec_admits_9 : cf_D k_sec_admits 9 (.iconst 2) 1 10 := ⟨by decide +kernel, rfl⟩
theorem d_sec_admits_10 : cf_D k_sec_admits 10 (.istore_n 3) 1 11 := ⟨by decide +kernel, rfl⟩
theorem d_sec_admits_11 : cf_D k_sec_admits 11 (.lload_n 1) 1 12 := ⟨by decide +kernel, rfl⟩
theorem d_sec_admits_12 : cf_D k_sec_admits 12 (.aload_n 0) 1 13 := ⟨by decide +kernel, rfl⟩
theorem d_sec_admits_13 : cf_D k_sec_admits 13 (.getfield 52) 3 16 := ⟨by decide +kernel, rfl⟩
theorem d_sec_admits_16 : cf_D k_sec_admits 16 (.lcmp) 1 17 := ⟨by decide +kernel, rfl⟩
theorem d_sec_admits_17 : cf_D k_sec_admits 17 (.ifCond .eq 18) 3 20 := ⟨by decide +kernel, rfl⟩
theorem d_sec_admits_20 : cf_D k_sec_admits 20 (.lload_n 1) 1 21 := ⟨by decide +kernel, rfl⟩
theorem d_sec_admits_21 : cf_D k_sec_admits 21 (.aload_n 0) 1 22 := ⟨by decide +kernel, rfl⟩
theorem d_sec_admits_22 : cf_D k_sec_admits 22 (.getfield 52) 3 25 := ⟨by decide +kernel, rfl⟩
theorem d_sec_admits_25 : cf_D k_sec_admits 25 (.lcmp) 1 26 := ⟨by decide +kernel, rfl⟩
theorem d_sec_admits_26 : cf_D k_sec_admits 26 (.ifCond .ge 7) 3 29 := ⟨by decide +kernel, rfl⟩
theorem d_sec_admits_29 : cf_D k_sec_admits 29 (.iconst 1) 1 30 := ⟨by decide +kernel, rfl⟩
theorem d_sec_admits_30 : cf_D k_sec_admits 30 (.goto 4) 3 33 := ⟨by decide +kernel, rfl⟩
theorem d_sec_admits_33 : cf_D k_sec_admits 33 (.iconst 4) 1 34 := ⟨by decide +kernel, rfl⟩
theorem d_sec_admits_34 : cf_D k_sec_admits 34 (.istore_n 3) 1 35 := ⟨by decide +kernel, rfl⟩
theorem d_sec_admits_35 : cf_D k_sec_admits 35 (.aload_n 0) 1 36 := ⟨by decide +kernel, rfl⟩
theorem d_sec_admits_36 : cf_D k_sec_admits 36 (.getfield 45) 3 39 := ⟨by decide +kernel, rfl⟩
theorem d_sec_admits_39 : cf_D k_sec_admits 39 (.iload_n 3) 1 40 := ⟨by decide +kernel, rfl⟩
theorem d_sec_admits_40 : cf_D k_sec_admits 40 (.iand) 1 41 := ⟨by decide +kernel, rfl⟩
theorem d_sec_admits_41 : cf_D k_sec_admits 41 (.ifCond .eq 7) 3 44 := ⟨by decide +kernel, rfl⟩
theorem d_sec_admits_44 : cf_D k_sec_admits 44 (.iconst 1) 1 45 := ⟨by decide +kernel, rfl⟩
theorem d_sec_admits_45 : cf_D k_sec_admits 45 (.goto 4) 3 48 := ⟨by decide +kernel, rfl⟩
theorem d_sec_admits_48 : cf_D k_sec_admits 48 (.iconst 0) 1 49 := ⟨by decide +kernel, rfl⟩
theorem d_sec_admits_49 : cf_D k_sec_admits 49 (.ireturn) 1 50 := ⟨by decide +kernel, rfl⟩
theorem d_fmt_writeBy_0 : cf_D k_fmt_writeBy 0 (.aload_n 0) 1 1 := ⟨by decide +kernel, rfl⟩
theorem d_fmt_writeBy_1 : cf_D k_fmt_writeBy 1 (.getfield 35) 3 4 := ⟨by decide +kernel, rfl⟩
theorem d_fmt_writeBy_4 : cf_D k_fmt_writeBy 4 (.iload_n 1) 1 5 := ⟨by decide +kernel, rfl⟩
theorem d_fmt_writeBy_5 : cf_D k_fmt_writeBy 5 (.aaload) 1 6 := ⟨by decide +kernel, rfl⟩
theorem d_fmt_writeBy_6 : cf_D k_fmt_writeBy 6 (.astore 4) 2 8 := ⟨by decide +kernel, rfl⟩
theorem d_fmt_writeBy_8 : cf_D k_fmt_writeBy 8 (.aload 4) 2 10 := ⟨by decide +kernel, rfl⟩
theorem d_fmt_writeBy_10 : cf_D k_fmt_writeBy 10 (.getfield 97) 3 13 := ⟨by decide +kernel, rfl⟩
theorem d_fmt_writeBy_13 : cf_D k_fmt_writeBy 13 (.iconst 2) 1 14 := ⟨by decide +kernel, rfl⟩
theorem d_fmt_writeBy_14 : cf_D k_fmt_writeBy 14 (.if_icmp .ne 18) 3 17 := ⟨by decide +kernel, rfl⟩
theorem d_fmt_writeBy_17 : cf_D k_fmt_writeBy 17 (.aload_n 0) 1 18 := ⟨by decide +kernel, rfl⟩
theorem d_fmt_writeBy_18 : cf_D k_fmt_writeBy 18 (.getfield 78) 3 21 := ⟨by decide +kernel, rfl⟩
theorem d_fmt_writeBy_21 : cf_D k_fmt_writeBy 21 (.aload_n 0) 1 22 := ⟨by decide +kernel, rfl⟩
theorem d_fmt_writeBy_22 : cf_D k_fmt_writeBy 22 (.getfield 20) 3 25 := ⟨by decide +kernel, rfl⟩
theorem d_fmt_writeBy_25 : cf_D k_fmt_writeBy 25 (.aload 4) 2 27 := ⟨by decide +kernel, rfl⟩
theorem d_fmt_writeBy_27 : cf_D k_fmt_writeBy 27 (.lload_n 2) 1 28 := ⟨by decide +kernel, rfl⟩
theorem d_fmt_writeBy_28 : cf_D k_fmt_writeBy 28 (.invokevirtual 162) 3 31 := ⟨by decide +kernel, rfl⟩
theorem d_fmt_writeBy_31 : cf_D k_fmt_writeBy 31 (.ireturn) 1 32 := ⟨by decide +kernel, rfl⟩
theorem d_fmt_writeBy_32 : cf_D k_fmt_writeBy 32 (.aload_n 0) 1 33 := ⟨by decide +kernel, rfl⟩
theorem d_fmt_writeBy_33 : cf_D k_fmt_writeBy 33 (.getfield 43) 3 36 := ⟨by decide +kernel, rfl⟩
theorem d_fmt_writeBy_36 : cf_D k_fmt_writeBy 36 (.ifCond .ne 12) 3 39 := ⟨by decide +kernel, rfl⟩
theorem d_fmt_writeBy_39 : cf_D k_fmt_writeBy 39 (.iload_n 1) 1 40 := ⟨by decide +kernel, rfl⟩
theorem d_fmt_writeBy_40 : cf_D k_fmt_writeBy 40 (.iconst 1) 1 41 := ⟨by decide +kernel, rfl⟩
theorem d_fmt_writeBy_41 : cf_D k_fmt_writeBy 41 (.if_icmp .ne 7) 3 44 := ⟨by decide +kernel, rfl⟩
theorem d_fmt_writeBy_44 : cf_D k_fmt_writeBy 44 (.iconst 1) 1 45 := ⟨by decide +kernel, rfl⟩
theorem d_fmt_writeBy_45 : cf_D k_fmt_writeBy 45 (.goto 4) 3 48 := ⟨by decide +kernel, rfl⟩
theorem d_fmt_writeBy_48 : cf_D k_fmt_writeBy 48 (.iconst 0) 1 49 := ⟨by decide +kernel, rfl⟩
theorem d_fmt_writeBy_49 : cf_D k_fmt_writeBy 49 (.istore 5) 2 51 := ⟨by decide +kernel, rfl⟩
theorem d_fmt_writeBy_51 : cf_D k_fmt_writeBy 51 (.lload_n 2) 1 52 := ⟨by decide +kernel, rfl⟩
theorem d_fmt_writeBy_52 : cf_D k_fmt_writeBy 52 (.lconst 0) 1 53 := ⟨by decide +kernel, rfl⟩
theorem d_fmt_writeBy_53 : cf_D k_fmt_writeBy 53 (.lcmp) 1 54 := ⟨by decide +kernel, rfl⟩
theorem d_fmt_writeBy_54 : cf_D k_fmt_writeBy 54 (.ifCond .ge 12) 3 57 := ⟨by decide +kernel, rfl⟩
theorem d_fmt_writeBy_57 : cf_D k_fmt_writeBy 57 (.iload 5) 2 59 := ⟨by decide +kernel, rfl⟩
theorem d_fmt_writeBy_59 : cf_D k_fmt_writeBy 59 (.ifCond .ne 7) 3 62 := ⟨by decide +kernel, rfl⟩
theorem d_fmt_writeBy_62 : cf_D k_fmt_writeBy 62 (.iconst 1) 1 63 := ⟨by decide +kernel, rfl⟩
theorem d_fmt_writeBy_63 : cf_D k_fmt_writeBy 63 (.goto 4) 3 66 := ⟨by decide +kernel, rfl⟩
theorem d_fmt_writeBy_66 : cf_D k_fmt_writeBy 66 (.iconst 0) 1 67 := ⟨by decide +kernel, rfl⟩
theorem d_fmt_writeBy_67 : cf_D k_fmt_writeBy 67 (.istore 6) 2 69 := ⟨by decide +kernel, rfl⟩
theorem d_fmt_writeBy_69 : cf_D k_fmt_writeBy 69 (.aload 4) 2 71 := ⟨by decide +kernel, rfl⟩
theorem d_fmt_writeBy_71 : cf_D k_fmt_writeBy 71 (.getfield 97) 3 74 := ⟨by decide +kernel, rfl⟩
theorem d_fmt_writeBy_74 : cf_D k_fmt_writeBy 74 (.iconst 1) 1 75 := ⟨by decide +kernel, rfl⟩
theorem d_fmt_writeBy_75 : cf_D k_fmt_writeBy 75 (.if_icmp .ne 25) 3 78 := ⟨by decide +kernel, rfl⟩
theorem d_fmt_writeBy_78 : cf_D k_fmt_writeBy 78 (.aload_n 0) 1 79 := ⟨by decide +kernel, rfl⟩
theorem d_fmt_writeBy_79 : cf_D k_fmt_writeBy 79 (.getfield 69) 3 82 := ⟨by decide +kernel, rfl⟩
theorem d_fmt_writeBy_82 : cf_D k_fmt_writeBy 82 (.aload_n 0) 1 83 := ⟨by decide +kernel, rfl⟩
theorem d_fmt_writeBy_83 : cf_D k_fmt_writeBy 83 (.getfield 20) 3 86 := ⟨by decide +kernel, rfl⟩
theorem d_fmt_writeBy_86 : cf_D k_fmt_writeBy 86 (.aload 4) 2 88 := ⟨by decide +kernel, rfl⟩
theorem d_fmt_writeBy_88 : cf_D k_fmt_writeBy 88 (.lload_n 2) 1 89 := ⟨by decide +kernel, rfl⟩
theorem d_fmt_writeBy_89 : cf_D k_fmt_writeBy 89 (.invokestatic 166) 3 92 := ⟨by decide +kernel, rfl⟩
theorem d_fmt_writeBy_92 : cf_D k_fmt_writeBy 92 (.iload 6) 2 94 := ⟨by decide +kernel, rfl⟩
theorem d_fmt_writeBy_94 : cf_D k_fmt_writeBy 94 (.invokevirtual 172) 3 97 := ⟨by decide +kernel, rfl⟩
theorem d_fmt_writeBy_97 : cf_D k_fmt_writeBy 97 (.goto 11) 3 100 := ⟨by decide +kernel, rfl⟩
theorem d_fmt_writeBy_100 : cf_D k_fmt_writeBy 100 (.aload_n 0) 1 101 := ⟨by decide +kernel, rfl⟩
theorem d_fmt_writeBy_101 : cf_D k_fmt_writeBy 101 (.aload 4) 2 103 := ⟨by decide +kernel, rfl⟩
theorem d_fmt_writeBy_103 : cf_D k_fmt_writeBy 103 (.iload 6) 2 105 := ⟨by decide +kernel, rfl⟩
theorem d_fmt_writeBy_105 : cf_D k_fmt_writeBy 105 (.invokevirtual 175) 3 108 := ⟨by decide +kernel, rfl⟩
theorem d_fmt_writeBy_108 : cf_D k_fmt_writeBy 108 (.iconst 1) 1 109 := ⟨by decide +kernel, rfl⟩
theorem d_fmt_writeBy_109 : cf_D k_fmt_writeBy 109 (.ireturn) 1 110 := ⟨by decide +kernel, rfl⟩
theorem d_mom_write_0 : cf_D k_mom_write 0 (.lload_n 3) 1 1 := ⟨by decide +kernel, rfl⟩
theorem d_mom_write_1 : cf_D k_mom_write 1 (.lconst 0) 1 2 := ⟨by decide +kernel, rfl⟩
theorem d_mom_write_2 : cf_D k_mom_write 2 (.lcmp) 1 3 := ⟨by decide +kernel, rfl⟩
theorem d_mom_write_3 : cf_D k_mom_write 3 (.ifCond .ge 5) 3 6 := ⟨by decide +kernel, rfl⟩
theorem d_mom_write_6 : cf_D k_mom_write 6 (.iconst 0) 1 7 := ⟨by decide +kernel, rfl⟩
theorem d_mom_write_7 : cf_D k_mom_write 7 (.ireturn) 1 8 := ⟨by decide +kernel, rfl⟩
theorem d_mom_write_8 : cf_D k_mom_write 8 (.aload_n 0) 1 9 := ⟨by decide +kernel, rfl⟩
theorem d_mom_write_9 : cf_D k_mom_write 9 (.lload_n 3) 1 10 := ⟨by decide +kernel, rfl⟩
theorem d_mom_write_10 : cf_D k_mom_write 10 (.invokevirtual 19) 3 13 := ⟨by decide +kernel, rfl⟩
theorem d_mom_write_13 : cf_D k_mom_write 13 (.aload_n 0) 1 14 := ⟨by decide +kernel, rfl⟩
theorem d_mom_write_14 : cf_D k_mom_write 14 (.getfield 23) 3 17 := ⟨by decide +kernel, rfl⟩
theorem d_mom_write_17 : cf_D k_mom_write 17 (.aload_n 0) 1 18 := ⟨by decide +kernel, rfl⟩
theorem d_mom_write_18 : cf_D k_mom_write 18 (.getfield 15) 3 21 := ⟨by decide +kernel, rfl⟩
theorem d_mom_write_21 : cf_D k_mom_write 21 (.invokevirtual 27) 3 24 := ⟨by decide +kernel, rfl⟩
theorem d_mom_write_24 : cf_D k_mom_write 24 (.i2l) 1 25 := ⟨by decide +kernel, rfl⟩
theorem d_mom_write_25 : cf_D k_mom_write 25 (.lcmp) 1 26 := ⟨by decide +kernel, rfl⟩
theorem d_mom_write_26 : cf_D k_mom_write 26 (.ifCond .le 5) 3 29 := ⟨by decide +kernel, rfl⟩
theorem d_mom_write_29 : cf_D k_mom_write 29 (.iconst 0) 1 30 := ⟨by decide +kernel, rfl⟩
theorem d_mom_write_30 : cf_D k_mom_write 30 (.ireturn) 1 31 := ⟨by decide +kernel, rfl⟩
theorem d_mom_write_31 : cf_D k_mom_write 31 (.aload_n 2) 1 32 := ⟨by decide +kernel, rfl⟩
theorem d_mom_write_32 : cf_D k_mom_write 32 (.getfield 33) 3 35 := ⟨by decide +kernel, rfl⟩
theorem d_mom_write_35 : cf_D k_mom_write 35 (.ifCond .eq 20) 3 38 := ⟨by decide +kernel, rfl⟩
theorem d_mom_write_38 : cf_D k_mom_write 38 (.aload_n 0) 1 39 := ⟨by decide +kernel, rfl⟩
theorem d_mom_write_39 : cf_D k_mom_write 39 (.getfield 15) 3 42 := ⟨by decide +kernel, rfl⟩
theorem d_mom_write_42 : cf_D k_mom_write 42 (.aload_n 0) 1 43 := ⟨by decide +kernel, rfl⟩
theorem d_mom_write_43 : cf_D k_mom_write 43 (.getfield 23) 3 46 := ⟨by decide +kernel, rfl⟩
theorem d_mom_write_46 : cf_D k_mom_write 46 (.l2i) 1 47 := ⟨by decide +kernel, rfl⟩
theorem d_mom_write_47 : cf_D k_mom_write 47 (.invokevirtual 39) 3 50 := ⟨by decide +kernel, rfl⟩
theorem d_mom_write_50 : cf_D k_mom_write 50 (.ifCond .ne 5) 3 53 := ⟨by decide +kernel, rfl⟩
theorem d_mom_write_53 : cf_D k_mom_write 53 (.iconst 0) 1 54 := ⟨by decide +kernel, rfl⟩
theorem d_mom_write_54 : cf_D k_mom_write 54 (.ireturn) 1 55 := ⟨by decide +kernel, rfl⟩
theorem d_mom_write_55 : cf_D k_mom_write 55 (.aload_n 2) 1 56 := ⟨by decide +kernel, rfl⟩
theorem d_mom_write_56 : cf_D k_mom_write 56 (.getfield 43) 3 59 := ⟨by decide +kernel, rfl⟩
theorem d_mom_write_59 : cf_D k_mom_write 59 (.istore 5) 2 61 := ⟨by decide +kernel, rfl⟩
theorem d_mom_write_61 : cf_D k_mom_write 61 (.iload 5) 2 63 := ⟨by decide +kernel, rfl⟩
theorem d_mom_write_63 : cf_D k_mom_write 63 (.aload_n 2) 1 64 := ⟨by decide +kernel, rfl⟩
theorem d_mom_write_64 : cf_D k_mom_write 64 (.getfield 47) 3 67 := ⟨by decide +kernel, rfl⟩
theorem d_mom_write_67 : cf_D k_mom_write 67 (.if_icmp .ge 20) 3 70 := ⟨by decide +kernel, rfl⟩
theorem d_mom_write_70 : cf_D k_mom_write 70 (.aload_n 0) 1 71 := ⟨by decide +kernel, rfl⟩
theorem d_mom_write_71 : cf_D k_mom_write 71 (.aload_n 1) 1 72 := ⟨by decide +kernel, rfl⟩
theorem d_mom_write_72 : cf_D k_mom_write 72 (.iload 5) 2 74 := ⟨by decide +kernel, rfl⟩
theorem d_mom_write_74 : cf_D k_mom_write 74 (.aload_n 2) 1 75 := ⟨by decide +kernel, rfl⟩
theorem d_mom_write_75 : cf_D k_mom_write 75 (.getfield 50) 3 78 := ⟨by decide +kernel, rfl⟩
theorem d_mom_write_78 : cf_D k_mom_write 78 (.invokevirtual 53) 3 81 := ⟨by decide +kernel, rfl⟩
theorem d_mom_write_81 : cf_D k_mom_write 81 (.iinc 5 1) 3 84 := ⟨by decide +kernel, rfl⟩
theorem d_mom_write_84 : cf_D k_mom_write 84 (.goto (-23)) 3 87 := ⟨by decide +kernel, rfl⟩
theorem d_mom_write_87 : cf_D k_mom_write 87 (.iconst 1) 1 88 := ⟨by decide +kernel, rfl⟩
theorem d_mom_write_88 : cf_D k_mom_write 88 (.ireturn) 1 89 := ⟨by decide +kernel, rfl⟩
theorem d_mom_roundToSeconds_0 : cf_D k_mom_roundToSeconds 0 (.aload_n 0) 1 1 := ⟨by decide +kernel, rfl⟩
theorem d_mom_roundToSeconds_1 : cf_D k_mom_roundToSeconds 1 (.lload_n 1) 1 2 := ⟨by decide +kernel, rfl⟩
theorem d_mom_roundToSeconds_2 : cf_D k_mom_roundToSeconds 2 (.ldc2_w 57) 3 5 := ⟨by decide +kernel, rfl⟩
theorem d_mom_roundToSeconds_5 : cf_D k_mom_roundToSeconds 5 (.ldiv) 1 6 := ⟨by decide +kernel, rfl⟩
theorem d_mom_roundToSeconds_6 : cf_D k_mom_roundToSeconds 6 (.putfield 23) 3 9 := ⟨by decide +kernel, rfl⟩
theorem d_mom_roundToSeconds_9 : cf_D k_mom_roundToSeconds 9 (.lload_n 1) 1 10 := ⟨by decide +kernel, rfl⟩
theorem d_mom_roundToSeconds_10 : cf_D k_mom_roundToSeconds 10 (.ldc2_w 57) 3 13 := ⟨by decide +kernel, rfl⟩
theorem d_mom_roundToSeconds_13 : cf_D k_mom_roundToSeconds 13 (.lrem) 1 14 := ⟨by decide +kernel, rfl⟩
theorem d_mom_roundToSeconds_14 : cf_D k_mom_roundToSeconds 14 (.lstore_n 3) 1 15 := ⟨by decide +kernel, rfl⟩
theorem d_mom_roundToSeconds_15 : cf_D k_mom_roundToSeconds 15 (.aload_n 0) 1 16 := ⟨by decide +kernel, rfl⟩
theorem d_mom_roundToSeconds_16 : cf_D k_mom_roundToSeconds 16 (.lload_n 3) 1 17 := ⟨by decide +kernel, rfl⟩
theorem d_mom_roundToSeconds_17 : cf_D k_mom_roundToSeconds 17 (.ldc2_w 59) 3 20 := ⟨by decide +kernel, rfl⟩
theorem d_mom_roundToSeconds_20 : cf_D k_mom_roundToSeconds 20 (.lmul) 1 21 := ⟨by decide +kernel, rfl⟩
theorem d_mom_roundToSeconds_21 : cf_D k_mom_roundToSeconds 21 (.ldc2_w 61) 3 24 := ⟨by decide +kernel, rfl⟩
theorem d_mom_roundToSeconds_24 : cf_D k_mom_roundToSeconds 24 (.ladd) 1 25 := ⟨by decide +kernel, rfl⟩
theorem d_mom_roundToSeconds_25 : cf_D k_mom_roundToSeconds 25 (.ldc2_w 57) 3 28 := ⟨by decide +kernel, rfl⟩
theorem d_mom_roundToSeconds_28 : cf_D k_mom_roundToSeconds 28 (.ldiv) 1 29 := ⟨by decide +kernel, rfl⟩
theorem d_mom_roundToSeconds_29 : cf_D k_mom_roundToSeconds 29 (.l2i) 1 30 := ⟨by decide +kernel, rfl⟩
theorem d_mom_roundToSeconds_30 : cf_D k_mom_roundToSeconds 30 (.putfield 63) 3 33 := ⟨by decide +kernel, rfl⟩
theorem d_mom_roundToSeconds_33 : cf_D k_mom_roundToSeconds 33 (.aload_n 0) 1 34 := ⟨by decide +kernel, rfl⟩
theorem d_mom_roundToSeconds_34 : cf_D k_mom_roundToSeconds 34 (.getfield 63) 3 37 := ⟨by decide +kernel, rfl⟩
theorem d_mom_roundToSeconds_37 : cf_D k_mom_roundToSeconds 37 (.ldc 66) 2 39 := ⟨by decide +kernel, rfl⟩
theorem d_mom_roundToSeconds_39 : cf_D k_mom_roundToSeconds 39 (.if_icmp .ne 18) 3 42 := ⟨by decide +kernel, rfl⟩
theorem d_mom_roundToSeconds_42 : cf_D k_mom_roundToSeconds 42 (.aload_n 0) 1 43 := ⟨by decide +kernel, rfl⟩
theorem d_mom_roundToSeconds_43 : cf_D k_mom_roundToSeconds 43 (.iconst 0) 1 44 := ⟨by decide +kernel, rfl⟩
theorem d_mom_roundToSeconds_44 : cf_D k_mom_roundToSeconds 44 (.putfield 63) 3 47 := ⟨by decide +kernel, rfl⟩
theorem d_mom_roundToSeconds_47 : cf_D k_mom_roundToSeconds 47 (.aload_n 0) 1 48 := ⟨by decide +kernel, rfl⟩
theorem d_mom_roundToSeconds_48 : cf_D k_mom_roundToSeconds 48 (.dup) 1 49 := ⟨by decide +kernel, rfl⟩
theorem d_mom_roundToSeconds_49 : cf_D k_mom_roundToSeconds 49 (.getfield 23) 3 52 := ⟨by decide +kernel, rfl⟩
theorem d_mom_roundToSeconds_52 : cf_D k_mom_roundToSeconds 52 (.lconst 1) 1 53 := ⟨by decide +kernel, rfl⟩
theorem d_mom_roundToSeconds_53 : cf_D k_mom_roundToSeconds 53 (.ladd) 1 54 := ⟨by decide +kernel, rfl⟩
theorem d_mom_roundToSeconds_54 : cf_D k_mom_roundToSeconds 54 (.putfield 23) 3 57 := ⟨by decide +kernel, rfl⟩
theorem d_mom_roundToSeconds_57 : cf_D k_mom_roundToSeconds 57 (.return_) 1 58 := ⟨by decide +kernel, rfl⟩
theorem d_cal_lastSerial_0 : cf_D k_cal_lastSerial 0 (.aload_n 0) 1 1 := ⟨by decide +kernel, rfl⟩
theorem d_cal_lastSerial_1 : cf_D k_cal_lastSerial 1 (.getfield 9) 3 4 := ⟨by decide +kernel, rfl⟩
theorem d_cal_lastSerial_4 : cf_D k_cal_lastSerial 4 (.ifCond .eq 8) 3 7 := ⟨by decide +kernel, rfl⟩
theorem d_cal_lastSerial_7 : cf_D k_cal_lastSerial 7 (.ldc 15) 2 9 := ⟨by decide +kernel, rfl⟩
theorem d_cal_lastSerial_9 : cf_D k_cal_lastSerial 9 (.goto 5) 3 12 := ⟨by decide +kernel, rfl⟩
theorem d_cal_lastSerial_12 : cf_D k_cal_lastSerial 12 (.ldc 16) 2 14 := ⟨by decide +kernel, rfl⟩
theorem d_cal_lastSerial_14 : cf_D k_cal_lastSerial 14 (.ireturn) 1 15 := ⟨by decide +kernel, rfl⟩
theorem d_cal_findDay_0 : cf_D k_cal_findDay 0 (.iload_n 1) 1 1 := ⟨by decide +kernel, rfl⟩
theorem d_cal_findDay_1 : cf_D k_cal_findDay 1 (.aload_n 0) 1 2 := ⟨by decide +kernel, rfl⟩
theorem d_cal_findDay_2 : cf_D k_cal_findDay 2 (.getfield 9) 3 5 := ⟨by decide +kernel, rfl⟩
theorem d_cal_findDay_5 : cf_D k_cal_findDay 5 (.ifCond .eq 7) 3 8 := ⟨by decide +kernel, rfl⟩
theorem d_cal_findDay_8 : cf_D k_cal_findDay 8 (.iconst 0) 1 9 := ⟨by decide +kernel, rfl⟩
theorem d_cal_findDay_9 : cf_D k_cal_findDay 9 (.goto 4) 3 12 := ⟨by decide +kernel, rfl⟩
theorem d_cal_findDay_12 : cf_D k_cal_findDay 12 (.iconst 1) 1 13 := ⟨by decide +kernel, rfl⟩
theorem d_cal_findDay_13 : cf_D k_cal_findDay 13 (.if_icmp .lt 11) 3 16 := ⟨by decide +kernel, rfl⟩
theorem d_cal_findDay_16 : cf_D k_cal_findDay 16 (.iload_n 1) 1 17 := ⟨by decide +kernel, rfl⟩
theorem d_cal_findDay_17 : cf_D k_cal_findDay 17 (.aload_n 0) 1 18 := ⟨by decide +kernel, rfl⟩
theorem d_cal_findDay_18 : cf_D k_cal_findDay 18 (.invokevirtual 17) 3 21 := ⟨by decide +kernel, rfl⟩
theorem d_cal_findDay_21 : cf_D k_cal_findDay 21 (.if_icmp .le 5) 3 24 := ⟨by decide +kernel, rfl⟩
theorem d_cal_findDay_24 : cf_D k_cal_findDay 24 (.iconst 0) 1 25 := ⟨by decide +kernel, rfl⟩
theorem d_cal_findDay_25 : cf_D k_cal_findDay 25 (.ireturn) 1 26 := ⟨by decide +kernel, rfl⟩
theorem d_cal_findDay_26 : cf_D k_cal_findDay 26 (.aload_n 0) 1 27 := ⟨by decide +kernel, rfl⟩
theorem d_cal_findDay_27 : cf_D k_cal_findDay 27 (.getfield 9) 3 30 := ⟨by decide +kernel, rfl⟩
theorem d_cal_findDay_30 : cf_D k_cal_findDay 30 (.ifCond .eq 29) 3 33 := ⟨by decide +kernel, rfl⟩
theorem d_cal_findDay_33 : cf_D k_cal_findDay 33 (.aload_n 0) 1 34 := ⟨by decide +kernel, rfl⟩
theorem d_cal_findDay_34 : cf_D k_cal_findDay 34 (.iload_n 1) 1 35 := ⟨by decide +kernel, rfl⟩
theorem d_cal_findDay_35 : cf_D k_cal_findDay 35 (.iconst 5) 1 36 := ⟨by decide +kernel, rfl⟩
theorem d_cal_findDay_36 : cf_D k_cal_findDay 36 (.iadd) 1 37 := ⟨by decide +kernel, rfl⟩
theorem d_cal_findDay_37 : cf_D k_cal_findDay 37 (.bipush 7) 2 39 := ⟨by decide +kernel, rfl⟩
theorem d_cal_findDay_39 : cf_D k_cal_findDay 39 (.irem) 1 40 := ⟨by decide +kernel, rfl⟩
theorem d_cal_findDay_40 : cf_D k_cal_findDay 40 (.iconst 1) 1 41 := ⟨by decide +kernel, rfl⟩
theorem d_cal_findDay_41 : cf_D k_cal_findDay 41 (.iadd) 1 42 := ⟨by decide +kernel, rfl⟩
theorem d_cal_findDay_42 : cf_D k_cal_findDay 42 (.putfield 21) 3 45 := ⟨by decide +kernel, rfl⟩
theorem d_cal_findDay_45 : cf_D k_cal_findDay 45 (.aload_n 0) 1 46 := ⟨by decide +kernel, rfl⟩
theorem d_cal_findDay_46 : cf_D k_cal_findDay 46 (.sipush 1904) 3 49 := ⟨by decide +kernel, rfl⟩
theorem d_cal_findDay_49 : cf_D k_cal_findDay 49 (.invokestatic 25) 3 52 := ⟨by decide +kernel, rfl⟩
theorem d_cal_findDay_52 : cf_D k_cal_findDay 52 (.iload_n 1) 1 53 := ⟨by decide +kernel, rfl⟩
theorem d_cal_findDay_53 : cf_D k_cal_findDay 53 (.iadd) 1 54 := ⟨by decide +kernel, rfl⟩
theorem d_cal_findDay_54 : cf_D k_cal_findDay 54 (.invokevirtual 29) 3 57 := ⟨by decide +kernel, rfl⟩
theorem d_cal_findDay_57 : cf_D k_cal_findDay 57 (.iconst 1) 1 58 := ⟨by decide +kernel, rfl⟩
theorem d_cal_findDay_58 : cf_D k_cal_findDay 58 (.ireturn) 1 59 := ⟨by decide +kernel, rfl⟩
theorem d_cal_findDay_59 : cf_D k_cal_findDay 59 (.aload_n 0) 1 60 := ⟨by decide +kernel, rfl⟩
theorem d_cal_findDay_60 : cf_D k_cal_findDay 60 (.iload_n 1) 1 61 := ⟨by decide +kernel, rfl⟩
theorem d_cal_findDay_61 : cf_D k_cal_findDay 61 (.iconst 1) 1 62 := ⟨by decide +kernel, rfl⟩
theorem d_cal_findDay_62 : cf_D k_cal_findDay 62 (.isub) 1 63 := ⟨by decide +kernel, rfl⟩
theorem d_cal_findDay_63 : cf_D k_cal_findDay 63 (.bipush 7) 2 65 := ⟨by decide +kernel, rfl⟩
theorem d_cal_findDay_65 : cf_D k_cal_findDay 65 (.irem) 1 66 := ⟨by decide +kernel, rfl⟩
theorem d_cal_findDay_66 : cf_D k_cal_findDay 66 (.iconst 1) 1 67 := ⟨by decide +kernel, rfl⟩
theorem d_cal_findDay_67 : cf_D k_cal_findDay 67 (.iadd) 1 68 := ⟨by decide +kernel, rfl⟩
theorem d_cal_findDay_68 : cf_D k_cal_findDay 68 (.putfield 21) 3 71 := ⟨by decide +kernel, rfl⟩
theorem d_cal_findDay_71 : cf_D k_cal_findDay 71 (.iload_n 1) 1 72 := ⟨by decide +kernel, rfl⟩
theorem d_cal_findDay_72 : cf_D k_cal_findDay 72 (.bipush 60) 2 74 := ⟨by decide +kernel, rfl⟩
theorem d_cal_findDay_74 : cf_D k_cal_findDay 74 (.if_icmp .ne 24) 3 77 := ⟨by decide +kernel, rfl⟩
theorem d_cal_findDay_77 : cf_D k_cal_findDay 77 (.aload_n 0) 1 78 := ⟨by decide +kernel, rfl⟩
theorem d_cal_findDay_78 : cf_D k_cal_findDay 78 (.sipush 1900) 3 81 := ⟨by decide +kernel, rfl⟩
theorem d_cal_findDay_81 : cf_D k_cal_findDay 81 (.putfield 33) 3 84 := ⟨by decide +kernel, rfl⟩
theorem d_cal_findDay_84 : cf_D k_cal_findDay 84 (.aload_n 0) 1 85 := ⟨by decide +kernel, rfl⟩
theorem d_cal_findDay_85 : cf_D k_cal_findDay 85 (.iconst 2) 1 86 := ⟨by decide +kernel, rfl⟩
theorem d_cal_findDay_86 : cf_D k_cal_findDay 86 (.putfield 36) 3 89 := ⟨by decide +kernel, rfl⟩
theorem d_cal_findDay_89 : cf_D k_cal_findDay 89 (.aload_n 0) 1 90 := ⟨by decide +kernel, rfl⟩
theorem d_cal_findDay_90 : cf_D k_cal_findDay 90 (.bipush 29) 2 92 := ⟨by decide +kernel, rfl⟩
theorem d_cal_findDay_92 : cf_D k_cal_findDay 92 (.putfield 39) 3 95 := ⟨by decide +kernel, rfl⟩
theorem d_cal_findDay_95 : cf_D k_cal_findDay 95 (.goto 27) 3 98 := ⟨by decide +kernel, rfl⟩
theorem d_cal_findDay_98 : cf_D k_cal_findDay 98 (.aload_n 0) 1 99 := ⟨by decide +kernel, rfl⟩
theorem d_cal_findDay_99 : cf_D k_cal_findDay 99 (.sipush 1900) 3 102 := ⟨by decide +kernel, rfl⟩
theorem d_cal_findDay_102 : cf_D k_cal_findDay 102 (.invokestatic 25) 3 105 := ⟨by decide +kernel, rfl⟩
theorem d_cal_findDay_105 : cf_D k_cal_findDay 105 (.iload_n 1) 1 106 := ⟨by decide +kernel, rfl⟩
theorem d_cal_findDay_106 : cf_D k_cal_findDay 106 (.iadd) 1 107 := ⟨by decide +kernel, rfl⟩
theorem d_cal_findDay_107 : cf_D k_cal_findDay 107 (.iload_n 1) 1 108 := ⟨by decide +kernel, rfl⟩
theorem d_cal_findDay_108 : cf_D k_cal_findDay 108 (.bipush 60) 2 110 := ⟨by decide +kernel, rfl⟩
theorem d_cal_findDay_110 : cf_D k_cal_findDay 110 (.if_icmp .ge 7) 3 113 := ⟨by decide +kernel, rfl⟩
theorem d_cal_findDay_113 : cf_D k_cal_findDay 113 (.iconst 1) 1 114 := ⟨by decide +kernel, rfl⟩
theorem d_cal_findDay_114 : cf_D k_cal_findDay 114 (.goto 4) 3 117 := ⟨by decide +kernel, rfl⟩
theorem d_cal_findDay_117 : cf_D k_cal_findDay 117 (.iconst 2) 1 118 := ⟨by decide +kernel, rfl⟩
theorem d_cal_findDay_118 : cf_D k_cal_findDay 118 (.isub) 1 119 := ⟨by decide +kernel, rfl⟩
theorem d_cal_findDay_119 : cf_D k_cal_findDay 119 (.invokevirtual 29) 3 122 := ⟨by decide +kernel, rfl⟩
theorem d_cal_findDay_122 : cf_D k_cal_findDay 122 (.iconst 1) 1 123 := ⟨by decide +kernel, rfl⟩
theorem d_cal_findDay_123 : cf_D k_cal_findDay 123 (.ireturn) 1 124 := ⟨by decide +kernel, rfl⟩
theorem d_cal_daysBeforeYear_0 : cf_D k_cal_daysBeforeYear 0 (.iload_n 0) 1 1 := ⟨by decide +kernel, rfl⟩
theorem d_cal_daysBeforeYear_1 : cf_D k_cal_daysBeforeYear 1 (.iconst 1) 1 2 := ⟨by decide +kernel, rfl⟩
theorem d_cal_daysBeforeYear_2 : cf_D k_cal_daysBeforeYear 2 (.isub) 1 3 := ⟨by decide +kernel, rfl⟩
theorem d_cal_daysBeforeYear_3 : cf_D k_cal_daysBeforeYear 3 (.istore_n 1) 1 4 := ⟨by decide +kernel, rfl⟩
theorem d_cal_daysBeforeYear_4 : cf_D k_cal_daysBeforeYear 4 (.iload_n 1) 1 5 := ⟨by decide +kernel, rfl⟩
theorem d_cal_daysBeforeYear_5 : cf_D k_cal_daysBeforeYear 5 (.sipush 365) 3 8 := ⟨by decide +kernel, rfl⟩
theorem d_cal_daysBeforeYear_8 : cf_D k_cal_daysBeforeYear 8 (.imul) 1 9 := ⟨by decide +kernel, rfl⟩
theorem d_cal_daysBeforeYear_9 : cf_D k_cal_daysBeforeYear 9 (.iload_n 1) 1 10 := ⟨by decide +kernel, rfl⟩
theorem d_cal_daysBeforeYear_10 : cf_D k_cal_daysBeforeYear 10 (.iconst 4) 1 11 := ⟨by decide +kernel, rfl⟩
theorem d_cal_daysBeforeYear_11 : cf_D k_cal_daysBeforeYear 11 (.idiv) 1 12 := ⟨by decide +kernel, rfl⟩
theorem d_cal_daysBeforeYear_12 : cf_D k_cal_daysBeforeYear 12 (.iadd) 1 13 := ⟨by decide +kernel, rfl⟩
theorem d_cal_daysBeforeYear_13 : cf_D k_cal_daysBeforeYear 13 (.iload_n 1) 1 14 := ⟨by decide +kernel, rfl⟩
theorem d_cal_daysBeforeYear_14 : cf_D k_cal_daysBeforeYear 14 (.bipush 100) 2 16 := ⟨by decide +kernel, rfl⟩
theorem d_cal_daysBeforeYear_16 : cf_D k_cal_daysBeforeYear 16 (.idiv) 1 17 := ⟨by decide +kernel, rfl⟩
theorem d_cal_daysBeforeYear_17 : cf_D k_cal_daysBeforeYear 17 (.isub) 1 18 := ⟨by decide +kernel, rfl⟩
theorem d_cal_daysBeforeYear_18 : cf_D k_cal_daysBeforeYear 18 (.iload_n 1) 1 19 := ⟨by decide +kernel, rfl⟩
theorem d_cal_daysBeforeYear_19 : cf_D k_cal_daysBeforeYear 19 (.sipush 400) 3 22 := ⟨by decide +kernel, rfl⟩
theorem d_cal_daysBeforeYear_22 : cf_D k_cal_daysBeforeYear 22 (.idiv) 1 23 := ⟨by decide +kernel, rfl⟩
theorem d_cal_daysBeforeYear_23 : cf_D k_cal_daysBeforeYear 23 (.iadd) 1 24 := ⟨by decide +kernel, rfl⟩
theorem d_cal_daysBeforeYear_24 : cf_D k_cal_daysBeforeYear 24 (.ireturn) 1 25 := ⟨by decide +kernel, rfl⟩
theorem d_cal_setDate_0 : cf_D k_cal_setDate 0 (.aload_n 0) 1 1 := ⟨by decide +kernel, rfl⟩
theorem d_cal_setDate_1 : cf_D k_cal_setDate 1 (.iload_n 1) 1 2 := ⟨by decide +kernel, rfl⟩
theorem d_cal_setDate_2 : cf_D k_cal_setDate 2 (.invokestatic 46) 3 5 := ⟨by decide +kernel, rfl⟩
theorem d_cal_setDate_5 : cf_D k_cal_setDate 5 (.putfield 33) 3 8 := ⟨by decide +kernel, rfl⟩
theorem d_cal_setDate_8 : cf_D k_cal_setDate 8 (.iload_n 1) 1 9 := ⟨by decide +kernel, rfl⟩
theorem d_cal_setDate_9 : cf_D k_cal_setDate 9 (.aload_n 0) 1 10 := ⟨by decide +kernel, rfl⟩
theorem d_cal_setDate_10 : cf_D k_cal_setDate 10 (.getfield 33) 3 13 := ⟨by decide +kernel, rfl⟩
theorem d_cal_setDate_13 : cf_D k_cal_setDate 13 (.invokestatic 25) 3 16 := ⟨by decide +kernel, rfl⟩
theorem d_cal_setDate_16 : cf_D k_cal_setDate 16 (.isub) 1 17 := ⟨by decide +kernel, rfl⟩
theorem d_cal_setDate_17 : cf_D k_cal_setDate 17 (.istore_n 2) 1 18 := ⟨by decide +kernel, rfl⟩
theorem d_cal_setDate_18 : cf_D k_cal_setDate 18 (.aload_n 0) 1 19 := ⟨by decide +kernel, rfl⟩
theorem d_cal_setDate_19 : cf_D k_cal_setDate 19 (.iconst 1) 1 20 := ⟨by decide +kernel, rfl⟩
theorem d_cal_setDate_20 : cf_D k_cal_setDate 20 (.putfield 36) 3 23 := ⟨by decide +kernel, rfl⟩
theorem d_cal_setDate_23 : cf_D k_cal_setDate 23 (.aload_n 0) 1 24 := ⟨by decide +kernel, rfl⟩
theorem d_cal_setDate_24 : cf_D k_cal_setDate 24 (.getfield 36) 3 27 := ⟨by decide +kernel, rfl⟩
theorem d_cal_setDate_27 : cf_D k_cal_setDate 27 (.bipush 12) 2 29 := ⟨by decide +kernel, rfl⟩
theorem d_cal_setDate_29 : cf_D k_cal_setDate 29 (.if_icmp .ge 45) 3 32 := ⟨by decide +kernel, rfl⟩
theorem d_cal_setDate_32 : cf_D k_cal_setDate 32 (.iload_n 2) 1 33 := ⟨by decide +kernel, rfl⟩
theorem d_cal_setDate_33 : cf_D k_cal_setDate 33 (.aload_n 0) 1 34 := ⟨by decide +kernel, rfl⟩
theorem d_cal_setDate_34 : cf_D k_cal_setDate 34 (.getfield 33) 3 37 := ⟨by decide +kernel, rfl⟩
theorem d_cal_setDate_37 : cf_D k_cal_setDate 37 (.aload_n 0) 1 38 := ⟨by decide +kernel, rfl⟩
theorem d_cal_setDate_38 : cf_D k_cal_setDate 38 (.getfield 36) 3 41 := ⟨by decide +kernel, rfl⟩
theorem d_cal_setDate_41 : cf_D k_cal_setDate 41 (.invokestatic 42) 3 44 := ⟨by decide +kernel, rfl⟩
theorem d_cal_setDate_44 : cf_D k_cal_setDate 44 (.if_icmp .lt 30) 3 47 := ⟨by decide +kernel, rfl⟩
theorem d_cal_setDate_47 : cf_D k_cal_setDate 47 (.iload_n 2) 1 48 := ⟨by decide +kernel, rfl⟩
theorem d_cal_setDate_48 : cf_D k_cal_setDate 48 (.aload_n 0) 1 49 := ⟨by decide +kernel, rfl⟩
theorem d_cal_setDate_49 : cf_D k_cal_setDate 49 (.getfield 33) 3 52 := ⟨by decide +kernel, rfl⟩
theorem d_cal_setDate_52 : cf_D k_cal_setDate 52 (.aload_n 0) 1 53 := ⟨by decide +kernel, rfl⟩
theorem d_cal_setDate_53 : cf_D k_cal_setDate 53 (.getfield 36) 3 56 := ⟨by decide +kernel, rfl⟩
theorem d_cal_setDate_56 : cf_D k_cal_setDate 56 (.invokestatic 42) 3 59 := ⟨by decide +kernel, rfl⟩
theorem d_cal_setDate_59 : cf_D k_cal_setDate 59 (.isub) 1 60 := ⟨by decide +kernel, rfl⟩
theorem d_cal_setDate_60 : cf_D k_cal_setDate 60 (.istore_n 2) 1 61 := ⟨by decide +kernel, rfl⟩
theorem d_cal_setDate_61 : cf_D k_cal_setDate 61 (.aload_n 0) 1 62 := ⟨by decide +kernel, rfl⟩
theorem d_cal_setDate_62 : cf_D k_cal_setDate 62 (.dup) 1 63 := ⟨by decide +kernel, rfl⟩
theorem d_cal_setDate_63 : cf_D k_cal_setDate 63 (.getfield 36) 3 66 := ⟨by decide +kernel, rfl⟩
theorem d_cal_setDate_66 : cf_D k_cal_setDate 66 (.iconst 1) 1 67 := ⟨by decide +kernel, rfl⟩
theorem d_cal_setDate_67 : cf_D k_cal_setDate 67 (.iadd) 1 68 := ⟨by decide +kernel, rfl⟩
theorem d_cal_setDate_68 : cf_D k_cal_setDate 68 (.putfield 36) 3 71 := ⟨by decide +kernel, rfl⟩
theorem d_cal_setDate_71 : cf_D k_cal_setDate 71 (.goto (-48)) 3 74 := ⟨by decide +kernel, rfl⟩
theorem d_cal_setDate_74 : cf_D k_cal_setDate 74 (.aload_n 0) 1 75 := ⟨by decide +kernel, rfl⟩
theorem d_cal_setDate_75 : cf_D k_cal_setDate 75 (.iload_n 2) 1 76 := ⟨by decide +kernel, rfl⟩
theorem d_cal_setDate_76 : cf_D k_cal_setDate 76 (.iconst 1) 1 77 := ⟨by decide +kernel, rfl⟩
theorem d_cal_setDate_77 : cf_D k_cal_setDate 77 (.iadd) 1 78 := ⟨by decide +kernel, rfl⟩
theorem d_cal_setDate_78 : cf_D k_cal_setDate 78 (.putfield 39) 3 81 := ⟨by decide +kernel, rfl⟩
theorem d_cal_setDate_81 : cf_D k_cal_setDate 81 (.return_) 1 82 := ⟨by decide +kernel, rfl⟩
theorem d_cal_yearOf_0 : cf_D k_cal_yearOf 0 (.sipush 1900) 3 3 := ⟨by decide +kernel, rfl⟩
theorem d_cal_yearOf_3 : cf_D k_cal_yearOf 3 (.istore_n 1) 1 4 := ⟨by decide +kernel, rfl⟩
theorem d_cal_yearOf_4 : cf_D k_cal_yearOf 4 (.sipush 9999) 3 7 := ⟨by decide +kernel, rfl⟩
theorem d_cal_yearOf_7 : cf_D k_cal_yearOf 7 (.istore_n 2) 1 8 := ⟨by decide +kernel, rfl⟩
theorem d_cal_yearOf_8 : cf_D k_cal_yearOf 8 (.iconst 0) 1 9 := ⟨by decide +kernel, rfl⟩
theorem d_cal_yearOf_9 : cf_D k_cal_yearOf 9 (.istore_n 3) 1 10 := ⟨by decide +kernel, rfl⟩
theorem d_cal_yearOf_10 : cf_D k_cal_yearOf 10 (.iload_n 3) 1 11 := ⟨by decide +kernel, rfl⟩
theorem d_cal_yearOf_11 : cf_D k_cal_yearOf 11 (.bipush 14) 2 13 := ⟨by decide +kernel, rfl⟩
theorem d_cal_yearOf_13 : cf_D k_cal_yearOf 13 (.if_icmp .ge 43) 3 16 := ⟨by decide +kernel, rfl⟩
theorem d_cal_yearOf_16 : cf_D k_cal_yearOf 16 (.iload_n 1) 1 17 := ⟨by decide +kernel, rfl⟩
theorem d_cal_yearOf_17 : cf_D k_cal_yearOf 17 (.iload_n 2) 1 18 := ⟨by decide +kernel, rfl⟩
theorem d_cal_yearOf_18 : cf_D k_cal_yearOf 18 (.if_icmp .ge 38) 3 21 := ⟨by decide +kernel, rfl⟩
theorem d_cal_yearOf_21 : cf_D k_cal_yearOf 21 (.iload_n 1) 1 22 := ⟨by decide +kernel, rfl⟩
theorem d_cal_yearOf_22 : cf_D k_cal_yearOf 22 (.iload_n 2) 1 23 := ⟨by decide +kernel, rfl⟩
theorem d_cal_yearOf_23 : cf_D k_cal_yearOf 23 (.iadd) 1 24 := ⟨by decide +kernel, rfl⟩
theorem d_cal_yearOf_24 : cf_D k_cal_yearOf 24 (.iconst 1) 1 25 := ⟨by decide +kernel, rfl⟩
theorem d_cal_yearOf_25 : cf_D k_cal_yearOf 25 (.iadd) 1 26 := ⟨by decide +kernel, rfl⟩
theorem d_cal_yearOf_26 : cf_D k_cal_yearOf 26 (.iconst 2) 1 27 := ⟨by decide +kernel, rfl⟩
theorem d_cal_yearOf_27 : cf_D k_cal_yearOf 27 (.idiv) 1 28 := ⟨by decide +kernel, rfl⟩
theorem d_cal_yearOf_28 : cf_D k_cal_yearOf 28 (.istore 4) 2 30 := ⟨by decide +kernel, rfl⟩
theorem d_cal_yearOf_30 : cf_D k_cal_yearOf 30 (.iload 4) 2 32 := ⟨by decide +kernel, rfl⟩
theorem d_cal_yearOf_32 : cf_D k_cal_yearOf 32 (.invokestatic 25) 3 35 := ⟨by decide +kernel, rfl⟩
theorem d_cal_yearOf_35 : cf_D k_cal_yearOf 35 (.iload_n 0) 1 36 := ⟨by decide +kernel, rfl⟩
theorem d_cal_yearOf_36 : cf_D k_cal_yearOf 36 (.if_icmp .gt 9) 3 39 := ⟨by decide +kernel, rfl⟩
theorem d_cal_yearOf_39 : cf_D k_cal_yearOf 39 (.iload 4) 2 41 := ⟨by decide +kernel, rfl⟩
theorem d_cal_yearOf_41 : cf_D k_cal_yearOf 41 (.istore_n 1) 1 42 := ⟨by decide +kernel, rfl⟩
theorem d_cal_yearOf_42 : cf_D k_cal_yearOf 42 (.goto 8) 3 45 := ⟨by decide +kernel, rfl⟩
theorem d_cal_yearOf_45 : cf_D k_cal_yearOf 45 (.iload 4) 2 47 := ⟨by decide +kernel, rfl⟩
theorem d_cal_yearOf_47 : cf_D k_cal_yearOf 47 (.iconst 1) 1 48 := ⟨by decide +kernel, rfl⟩
theorem d_cal_yearOf_48 : cf_D k_cal_yearOf 48 (.isub) 1 49 := ⟨by decide +kernel, rfl⟩
theorem d_cal_yearOf_49 : cf_D k_cal_yearOf 49 (.istore_n 2) 1 50 := ⟨by decide +kernel, rfl⟩
theorem d_cal_yearOf_50 : cf_D k_cal_yearOf 50 (.iinc 3 1) 3 53 := ⟨by decide +kernel, rfl⟩
theorem d_cal_yearOf_53 : cf_D k_cal_yearOf 53 (.goto (-43)) 3 56 := ⟨by decide +kernel, rfl⟩
theorem d_cal_yearOf_56 : cf_D k_cal_yearOf 56 (.iload_n 1) 1 57 := ⟨by decide +kernel, rfl⟩
theorem d_cal_yearOf_57 : cf_D k_cal_yearOf 57 (.ireturn) 1 58 := ⟨by decide +kernel, rfl⟩
theorem d_cal_monthLength_0 : cf_D k_cal_monthLength 0 (.iload_n 1) 1 1 := ⟨by decide +kernel, rfl⟩
theorem d_cal_monthLength_1 : cf_D k_cal_monthLength 1 (.iconst 2) 1 2 := ⟨by decide +kernel, rfl⟩
theorem d_cal_monthLength_2 : cf_D k_cal_monthLength 2 (.if_icmp .ne 13) 3 5 := ⟨by decide +kernel, rfl⟩
theorem d_cal_monthLength_5 : cf_D k_cal_monthLength 5 (.iload_n 0) 1 6 := ⟨by decide +kernel, rfl⟩
theorem d_cal_monthLength_6 : cf_D k_cal_monthLength 6 (.invokestatic 49) 3 9 := ⟨by decide +kernel, rfl⟩
theorem d_cal_monthLength_9 : cf_D k_cal_monthLength 9 (.ifCond .eq 6) 3 12 := ⟨by decide +kernel, rfl⟩
theorem d_cal_monthLength_12 : cf_D k_cal_monthLength 12 (.bipush 29) 2 14 := ⟨by decide +kernel, rfl⟩
theorem d_cal_monthLength_14 : cf_D k_cal_monthLength 14 (.ireturn) 1 15 := ⟨by decide +kernel, rfl⟩
theorem d_cal_monthLength_15 : cf_D k_cal_monthLength 15 (.iload_n 1) 1 16 := ⟨by decide +kernel, rfl⟩
theorem d_cal_monthLength_16 : cf_D k_cal_monthLength 16 (.iconst 1) 1 17 := ⟨by decide +kernel, rfl⟩
theorem d_cal_monthLength_17 : cf_D k_cal_monthLength 17 (.if_icmp .lt 19) 3 20 := ⟨by decide +kernel, rfl⟩
theorem d_cal_monthLength_20 : cf_D k_cal_monthLength 20 (.iload_n 1) 1 21 := ⟨by decide +kernel, rfl⟩
theorem d_cal_monthLength_21 : cf_D k_cal_monthLength 21 (.bipush 12) 2 23 := ⟨by decide +kernel, rfl⟩
theorem d_cal_monthLength_23 : cf_D k_cal_monthLength 23 (.if_icmp .gt 13) 3 26 := ⟨by decide +kernel, rfl⟩
theorem d_cal_monthLength_26 : cf_D k_cal_monthLength 26 (.getstatic 53) 3 29 := ⟨by decide +kernel, rfl⟩
theorem d_cal_monthLength_29 : cf_D k_cal_monthLength 29 (.iload_n 1) 1 30 := ⟨by decide +kernel, rfl⟩
theorem d_cal_monthLength_30 : cf_D k_cal_monthLength 30 (.iconst 1) 1 31 := ⟨by decide +kernel, rfl⟩
theorem d_cal_monthLength_31 : cf_D k_cal_monthLength 31 (.isub) 1 32 := ⟨by decide +kernel, rfl⟩
theorem d_cal_monthLength_32 : cf_D k_cal_monthLength 32 (.iaload) 1 33 := ⟨by decide +kernel, rfl⟩
theorem d_cal_monthLength_33 : cf_D k_cal_monthLength 33 (.goto 4) 3 36 := ⟨by decide +kernel, rfl⟩
theorem d_cal_monthLength_36 : cf_D k_cal_monthLength 36 (.iconst 0) 1 37 := ⟨by decide +kernel, rfl⟩
theorem d_cal_monthLength_37 : cf_D k_cal_monthLength 37 (.ireturn) 1 38 := ⟨by decide +kernel, rfl⟩
theorem d_cal_isLeap_0 : cf_D k_cal_isLeap 0 (.iload_n 0) 1 1 := ⟨by decide +kernel, rfl⟩
theorem d_cal_isLeap_1 : cf_D k_cal_isLeap 1 (.iconst 4) 1 2 := ⟨by decide +kernel, rfl⟩
theorem d_cal_isLeap_2 : cf_D k_cal_isLeap 2 (.irem) 1 3 := ⟨by decide +kernel, rfl⟩
theorem d_cal_isLeap_3 : cf_D k_cal_isLeap 3 (.ifCond .ne 22) 3 6 := ⟨by decide +kernel, rfl⟩
theorem d_cal_isLeap_6 : cf_D k_cal_isLeap 6 (.iload_n 0) 1 7 := ⟨by decide +kernel, rfl⟩
theorem d_cal_isLeap_7 : cf_D k_cal_isLeap 7 (.bipush 100) 2 9 := ⟨by decide +kernel, rfl⟩
theorem d_cal_isLeap_9 : cf_D k_cal_isLeap 9 (.irem) 1 10 := ⟨by decide +kernel, rfl⟩
theorem d_cal_isLeap_10 : cf_D k_cal_isLeap 10 (.ifCond .ne 11) 3 13 := ⟨by decide +kernel, rfl⟩
theorem d_cal_isLeap_13 : cf_D k_cal_isLeap 13 (.iload_n 0) 1 14 := ⟨by decide +kernel, rfl⟩
theorem d_cal_isLeap_14 : cf_D k_cal_isLeap 14 (.sipush 400) 3 17 := ⟨by decide +kernel, rfl⟩
theorem d_cal_isLeap_17 : cf_D k_cal_isLeap 17 (.irem) 1 18 := ⟨by decide +kernel, rfl⟩
theorem d_cal_isLeap_18 : cf_D k_cal_isLeap 18 (.ifCond .ne 7) 3 21 := ⟨by decide +kernel, rfl⟩
theorem d_cal_isLeap_21 : cf_D k_cal_isLeap 21 (.iconst 1) 1 22 := ⟨by decide +kernel, rfl⟩
theorem d_cal_isLeap_22 : cf_D k_cal_isLeap 22 (.goto 4) 3 25 := ⟨by decide +kernel, rfl⟩
theorem d_cal_isLeap_25 : cf_D k_cal_isLeap 25 (.iconst 0) 1 26 := ⟨by decide +kernel, rfl⟩
theorem d_cal_isLeap_26 : cf_D k_cal_isLeap 26 (.ireturn) 1 27 := ⟨by decide +kernel, rfl⟩
theorem d_mom_writeToken_0 : cf_D k_mom_writeToken 0 (.aload_n 1) 1 1 := ⟨by decide +kernel, rfl⟩
theorem d_mom_writeToken_1 : cf_D k_mom_writeToken 1 (.iload_n 2) 1 2 := ⟨by decide +kernel, rfl⟩
theorem d_mom_writeToken_2 : cf_D k_mom_writeToken 2 (.invokevirtual 67) 3 5 := ⟨by decide +kernel, rfl⟩
theorem d_mom_writeToken_5 : cf_D k_mom_writeToken 5 (.istore 4) 2 7 := ⟨by decide +kernel, rfl⟩
theorem d_mom_writeToken_7 : cf_D k_mom_writeToken 7 (.iload 4) 2 9 := ⟨by decide +kernel, rfl⟩
theorem d_mom_writeToken_9 : cf_D k_mom_writeToken 9 (.iconst 1) 1 10 := ⟨by decide +kernel, rfl⟩
theorem d_mom_writeToken_10 : cf_D k_mom_writeToken 10 (.if_icmp .ne 19) 3 13 := ⟨by decide +kernel, rfl⟩
theorem d_mom_writeToken_13 : cf_D k_mom_writeToken 13 (.aload_n 0) 1 14 := ⟨by decide +kernel, rfl⟩
theorem d_mom_writeToken_14 : cf_D k_mom_writeToken 14 (.getfield 9) 3 17 := ⟨by decide +kernel, rfl⟩
theorem d_mom_writeToken_17 : cf_D k_mom_writeToken 17 (.aload_n 1) 1 18 := ⟨by decide +kernel, rfl⟩
theorem d_mom_writeToken_18 : cf_D k_mom_writeToken 18 (.iload_n 2) 1 19 := ⟨by decide +kernel, rfl⟩
theorem d_mom_writeToken_19 : cf_D k_mom_writeToken 19 (.invokevirtual 73) 3 22 := ⟨by decide +kernel, rfl⟩
theorem d_mom_writeToken_22 : cf_D k_mom_writeToken 22 (.i2c) 1 23 := ⟨by decide +kernel, rfl⟩
theorem d_mom_writeToken_23 : cf_D k_mom_writeToken 23 (.invokevirtual 76) 3 26 := ⟨by decide +kernel, rfl⟩
theorem d_mom_writeToken_26 : cf_D k_mom_writeToken 26 (.goto 86) 3 29 := ⟨by decide +kernel, rfl⟩
theorem d_mom_writeToken_29 : cf_D k_mom_writeToken 29 (.iload 4) 2 31 := ⟨by decide +kernel, rfl⟩
theorem d_mom_writeToken_31 : cf_D k_mom_writeToken 31 (.bipush 9) 2 33 := ⟨by decide +kernel, rfl⟩
theorem d_mom_writeToken_33 : cf_D k_mom_writeToken 33 (.if_icmp .ne 15) 3 36 := ⟨by decide +kernel, rfl⟩
theorem d_mom_writeToken_36 : cf_D k_mom_writeToken 36 (.aload_n 0) 1 37 := ⟨by decide +kernel, rfl⟩
theorem d_mom_writeToken_37 : cf_D k_mom_writeToken 37 (.aload_n 1) 1 38 := ⟨by decide +kernel, rfl⟩
theorem d_mom_writeToken_38 : cf_D k_mom_writeToken 38 (.iload_n 2) 1 39 := ⟨by decide +kernel, rfl⟩
theorem d_mom_writeToken_39 : cf_D k_mom_writeToken 39 (.invokevirtual 73) 3 42 := ⟨by decide +kernel, rfl⟩
theorem d_mom_writeToken_42 : cf_D k_mom_writeToken 42 (.invokevirtual 82) 3 45 := ⟨by decide +kernel, rfl⟩
theorem d_mom_writeToken_45 : cf_D k_mom_writeToken 45 (.goto 67) 3 48 := ⟨by decide +kernel, rfl⟩
theorem d_mom_writeToken_48 : cf_D k_mom_writeToken 48 (.iload 4) 2 50 := ⟨by decide +kernel, rfl⟩
theorem d_mom_writeToken_50 : cf_D k_mom_writeToken 50 (.bipush 10) 2 52 := ⟨by decide +kernel, rfl⟩
theorem d_mom_writeToken_52 : cf_D k_mom_writeToken 52 (.if_icmp .ne 38) 3 55 := ⟨by decide +kernel, rfl⟩
theorem d_mom_writeToken_55 : cf_D k_mom_writeToken 55 (.aload_n 0) 1 56 := ⟨by decide +kernel, rfl⟩
theorem d_mom_writeToken_56 : cf_D k_mom_writeToken 56 (.getfield 9) 3 59 := ⟨by decide +kernel, rfl⟩
theorem d_mom_writeToken_59 : cf_D k_mom_writeToken 59 (.aload_n 0) 1 60 := ⟨by decide +kernel, rfl⟩
theorem d_mom_writeToken_60 : cf_D k_mom_writeToken 60 (.invokevirtual 86) 3 63 := ⟨by decide +kernel, rfl⟩
theorem d_mom_writeToken_63 : cf_D k_mom_writeToken 63 (.bipush 12) 2 65 := ⟨by decide +kernel, rfl⟩
theorem d_mom_writeToken_65 : cf_D k_mom_writeToken 65 (.if_icmp .ge 8) 3 68 := ⟨by decide +kernel, rfl⟩
theorem d_mom_writeToken_68 : cf_D k_mom_writeToken 68 (.bipush 65) 2 70 := ⟨by decide +kernel, rfl⟩
theorem d_mom_writeToken_70 : cf_D k_mom_writeToken 70 (.goto 5) 3 73 := ⟨by decide +kernel, rfl⟩
theorem d_mom_writeToken_73 : cf_D k_mom_writeToken 73 (.bipush 80) 2 75 := ⟨by decide +kernel, rfl⟩
theorem d_mom_writeToken_75 : cf_D k_mom_writeToken 75 (.invokevirtual 76) 3 78 := ⟨by decide +kernel, rfl⟩
theorem d_mom_writeToken_78 : cf_D k_mom_writeToken 78 (.aload_n 0) 1 79 := ⟨by decide +kernel, rfl⟩
theorem d_mom_writeToken_79 : cf_D k_mom_writeToken 79 (.getfield 9) 3 82 := ⟨by decide +kernel, rfl⟩
theorem d_mom_writeToken_82 : cf_D k_mom_writeToken 82 (.bipush 77) 2 84 := ⟨by decide +kernel, rfl⟩
theorem d_mom_writeToken_84 : cf_D k_mom_writeToken 84 (.invokevirtual 76) 3 87 := ⟨by decide +kernel, rfl⟩
theorem d_mom_writeToken_87 : cf_D k_mom_writeToken 87 (.goto 25) 3 90 := ⟨by decide +kernel, rfl⟩
theorem d_mom_writeToken_90 : cf_D k_mom_writeToken 90 (.iload 4) 2 92 := ⟨by decide +kernel, rfl⟩
theorem d_mom_writeToken_92 : cf_D k_mom_writeToken 92 (.bipush 8) 2 94 := ⟨by decide +kernel, rfl⟩
theorem d_mom_writeToken_94 : cf_D k_mom_writeToken 94 (.if_icmp .ne 18) 3 97 := ⟨by decide +kernel, rfl⟩
theorem d_mom_writeToken_97 : cf_D k_mom_writeToken 97 (.aload_n 0) 1 98 := ⟨by decide +kernel, rfl⟩
theorem d_mom_writeToken_98 : cf_D k_mom_writeToken 98 (.aload_n 1) 1 99 := ⟨by decide +kernel, rfl⟩
theorem d_mom_writeToken_99 : cf_D k_mom_writeToken 99 (.iload_n 2) 1 100 := ⟨by decide +kernel, rfl⟩
theorem d_mom_writeToken_100 : cf_D k_mom_writeToken 100 (.invokevirtual 73) 3 103 := ⟨by decide +kernel, rfl⟩
theorem d_mom_writeToken_103 : cf_D k_mom_writeToken 103 (.aload_n 1) 1 104 := ⟨by decide +kernel, rfl⟩
theorem d_mom_writeToken_104 : cf_D k_mom_writeToken 104 (.iload_n 2) 1 105 := ⟨by decide +kernel, rfl⟩
theorem d_mom_writeToken_105 : cf_D k_mom_writeToken 105 (.invokevirtual 89) 3 108 := ⟨by decide +kernel, rfl⟩
theorem d_mom_writeToken_108 : cf_D k_mom_writeToken 108 (.iload_n 3) 1 109 := ⟨by decide +kernel, rfl⟩
theorem d_mom_writeToken_109 : cf_D k_mom_writeToken 109 (.invokevirtual 92) 3 112 := ⟨by decide +kernel, rfl⟩
theorem d_mom_writeToken_112 : cf_D k_mom_writeToken 112 (.return_) 1 113 := ⟨by decide +kernel, rfl⟩
theorem d_txt_add_0 : cf_D k_txt_add 0 (.aload_n 0) 1 1 := ⟨by decide +kernel, rfl⟩
theorem d_txt_add_1 : cf_D k_txt_add 1 (.getfield 15) 3 4 := ⟨by decide +kernel, rfl⟩
theorem d_txt_add_4 : cf_D k_txt_add 4 (.sipush 256) 3 7 := ⟨by decide +kernel, rfl⟩
theorem d_txt_add_7 : cf_D k_txt_add 7 (.if_icmp .ge 23) 3 10 := ⟨by decide +kernel, rfl⟩
theorem d_txt_add_10 : cf_D k_txt_add 10 (.aload_n 0) 1 11 := ⟨by decide +kernel, rfl⟩
theorem d_txt_add_11 : cf_D k_txt_add 11 (.getfield 9) 3 14 := ⟨by decide +kernel, rfl⟩
theorem d_txt_add_14 : cf_D k_txt_add 14 (.aload_n 0) 1 15 := ⟨by decide +kernel, rfl⟩
theorem d_txt_add_15 : cf_D k_txt_add 15 (.getfield 15) 3 18 := ⟨by decide +kernel, rfl⟩
theorem d_txt_add_18 : cf_D k_txt_add 18 (.iload_n 1) 1 19 := ⟨by decide +kernel, rfl⟩
theorem d_txt_add_19 : cf_D k_txt_add 19 (.castore) 1 20 := ⟨by decide +kernel, rfl⟩
theorem d_txt_add_20 : cf_D k_txt_add 20 (.aload_n 0) 1 21 := ⟨by decide +kernel, rfl⟩
theorem d_txt_add_21 : cf_D k_txt_add 21 (.dup) 1 22 := ⟨by decide +kernel, rfl⟩
theorem d_txt_add_22 : cf_D k_txt_add 22 (.getfield 15) 3 25 := ⟨by decide +kernel, rfl⟩
theorem d_txt_add_25 : cf_D k_txt_add 25 (.iconst 1) 1 26 := ⟨by decide +kernel, rfl⟩
theorem d_txt_add_26 : cf_D k_txt_add 26 (.iadd) 1 27 := ⟨by decide +kernel, rfl⟩
theorem d_txt_add_27 : cf_D k_txt_add 27 (.putfield 15) 3 30 := ⟨by decide +kernel, rfl⟩
theorem d_txt_add_30 : cf_D k_txt_add 30 (.return_) 1 31 := ⟨by decide +kernel, rfl⟩
theorem d_mom_writeElapsed_0 : cf_D k_mom_writeElapsed 0 (.aload_n 0) 1 1 := ⟨by decide +kernel, rfl⟩
theorem d_mom_writeElapsed_1 : cf_D k_mom_writeElapsed 1 (.getfield 23) 3 4 := ⟨by decide +kernel, rfl⟩
theorem d_mom_writeElapsed_4 : cf_D k_mom_writeElapsed 4 (.ldc2_w 59) 3 7 := ⟨by decide +kernel, rfl⟩
theorem d_mom_writeElapsed_7 : cf_D k_mom_writeElapsed 7 (.lmul) 1 8 := ⟨by decide +kernel, rfl⟩
theorem d_mom_writeElapsed_8 : cf_D k_mom_writeElapsed 8 (.aload_n 0) 1 9 := ⟨by decide +kernel, rfl⟩
theorem d_mom_writeElapsed_9 : cf_D k_mom_writeElapsed 9 (.getfield 63) 3 12 := ⟨by decide +kernel, rfl⟩
theorem d_mom_writeElapsed_12 : cf_D k_mom_writeElapsed 12 (.i2l) 1 13 := ⟨by decide +kernel, rfl⟩
theorem d_mom_writeElapsed_13 : cf_D k_mom_writeElapsed 13 (.ladd) 1 14 := ⟨by decide +kernel, rfl⟩
theorem d_mom_writeElapsed_14 : cf_D k_mom_writeElapsed 14 (.lstore_n 2) 1 15 := ⟨by decide +kernel, rfl⟩
theorem d_mom_writeElapsed_15 : cf_D k_mom_writeElapsed 15 (.iload_n 1) 1 16 := ⟨by decide +kernel, rfl⟩
theorem d_mom_writeElapsed_16 : cf_D k_mom_writeElapsed 16 (.bipush 104) 2 18 := ⟨by decide +kernel, rfl⟩
theorem d_mom_writeElapsed_18 : cf_D k_mom_writeElapsed 18 (.if_icmp .ne 19) 3 21 := ⟨by decide +kernel, rfl⟩
theorem d_mom_writeElapsed_21 : cf_D k_mom_writeElapsed 21 (.aload_n 0) 1 22 := ⟨by decide +kernel, rfl⟩
theorem d_mom_writeElapsed_22 : cf_D k_mom_writeElapsed 22 (.getfield 9) 3 25 := ⟨by decide +kernel, rfl⟩
theorem d_mom_writeElapsed_25 : cf_D k_mom_writeElapsed 25 (.lload_n 2) 1 26 := ⟨by decide +kernel, rfl⟩
theorem d_mom_writeElapsed_26 : cf_D k_mom_writeElapsed 26 (.ldc2_w 96) 3 29 := ⟨by decide +kernel, rfl⟩
theorem d_mom_writeElapsed_29 : cf_D k_mom_writeElapsed 29 (.ldiv) 1 30 := ⟨by decide +kernel, rfl⟩
theorem d_mom_writeElapsed_30 : cf_D k_mom_writeElapsed 30 (.iconst 1) 1 31 := ⟨by decide +kernel, rfl⟩
theorem d_mom_writeElapsed_31 : cf_D k_mom_writeElapsed 31 (.invokevirtual 98) 3 34 := ⟨by decide +kernel, rfl⟩
theorem d_mom_writeElapsed_34 : cf_D k_mom_writeElapsed 34 (.goto 34) 3 37 := ⟨by decide +kernel, rfl⟩
theorem d_mom_writeElapsed_37 : cf_D k_mom_writeElapsed 37 (.iload_n 1) 1 38 := ⟨by decide +kernel, rfl⟩
theorem d_mom_writeElapsed_38 : cf_D k_mom_writeElapsed 38 (.bipush 109) 2 40 := ⟨by decide +kernel, rfl⟩
theorem d_mom_writeElapsed_40 : cf_D k_mom_writeElapsed 40 (.if_icmp .ne 19) 3 43 := ⟨by decide +kernel, rfl⟩
theorem d_mom_writeElapsed_43 : cf_D k_mom_writeElapsed 43 (.aload_n 0) 1 44 := ⟨by decide +kernel, rfl⟩
theorem d_mom_writeElapsed_44 : cf_D k_mom_writeElapsed 44 (.getfield 9) 3 47 := ⟨by decide +kernel, rfl⟩
theorem d_mom_writeElapsed_47 : cf_D k_mom_writeElapsed 47 (.lload_n 2) 1 48 := ⟨by decide +kernel, rfl⟩
theorem d_mom_writeElapsed_48 : cf_D k_mom_writeElapsed 48 (.ldc2_w 102) 3 51 := ⟨by decide +kernel, rfl⟩
theorem d_mom_writeElapsed_51 : cf_D k_mom_writeElapsed 51 (.ldiv) 1 52 := ⟨by decide +kernel, rfl⟩
theorem d_mom_writeElapsed_52 : cf_D k_mom_writeElapsed 52 (.iconst 1) 1 53 := ⟨by decide +kernel, rfl⟩
theorem d_mom_writeElapsed_53 : cf_D k_mom_writeElapsed 53 (.invokevirtual 98) 3 56 := ⟨by decide +kernel, rfl⟩
theorem d_mom_writeElapsed_56 : cf_D k_mom_writeElapsed 56 (.goto 12) 3 59 := ⟨by decide +kernel, rfl⟩
theorem d_mom_writeElapsed_59 : cf_D k_mom_writeElapsed 59 (.aload_n 0) 1 60 := ⟨by decide +kernel, rfl⟩
theorem d_mom_writeElapsed_60 : cf_D k_mom_writeElapsed 60 (.getfield 9) 3 63 := ⟨by decide +kernel, rfl⟩
theorem d_mom_writeElapsed_63 : cf_D k_mom_writeElapsed 63 (.lload_n 2) 1 64 := ⟨by decide +kernel, rfl⟩
theorem d_mom_writeElapsed_64 : cf_D k_mom_writeElapsed 64 (.iconst 1) 1 65 := ⟨by decide +kernel, rfl⟩
theorem d_mom_writeElapsed_65 : cf_D k_mom_writeElapsed 65 (.invokevirtual 98) 3 68 := ⟨by decide +kernel, rfl⟩
theorem d_mom_writeElapsed_68 : cf_D k_mom_writeElapsed 68 (.return_) 1 69 := ⟨by decide +kernel, rfl⟩
theorem d_txt_addNumber_0 : cf_D k_txt_addNumber 0 (.lload_n 1) 1 1 := ⟨by decide +kernel, rfl⟩
theorem d_txt_addNumber_1 : cf_D k_txt_addNumber 1 (.invokestatic 19) 3 4 := ⟨by decide +kernel, rfl⟩
theorem d_txt_addNumber_4 : cf_D k_txt_addNumber 4 (.iload_n 3) 1 5 := ⟨by decide +kernel, rfl⟩
theorem d_txt_addNumber_5 : cf_D k_txt_addNumber 5 (.invokestatic 23) 3 8 := ⟨by decide +kernel, rfl⟩
theorem d_txt_addNumber_8 : cf_D k_txt_addNumber 8 (.getstatic 29) 3 11 := ⟨by decide +kernel, rfl⟩
theorem d_txt_addNumber_11 : cf_D k_txt_addNumber 11 (.arraylength) 1 12 := ⟨by decide +kernel, rfl⟩
theorem d_txt_addNumber_12 : cf_D k_txt_addNumber 12 (.invokestatic 33) 3 15 := ⟨by decide +kernel, rfl⟩
theorem d_txt_addNumber_15 : cf_D k_txt_addNumber 15 (.istore 4) 2 17 := ⟨by decide +kernel, rfl⟩
theorem d_txt_addNumber_17 : cf_D k_txt_addNumber 17 (.iload 4) 2 19 := ⟨by decide +kernel, rfl⟩
theorem d_txt_addNumber_19 : cf_D k_txt_addNumber 19 (.iconst 1) 1 20 := ⟨by decide +kernel, rfl⟩
theorem d_txt_addNumber_20 : cf_D k_txt_addNumber 20 (.isub) 1 21 := ⟨by decide +kernel, rfl⟩
theorem d_txt_addNumber_21 : cf_D k_txt_addNumber 21 (.istore 5) 2 23 := ⟨by decide +kernel, rfl⟩
theorem d_txt_addNumber_23 : cf_D k_txt_addNumber 23 (.iload 5) 2 25 := ⟨by decide +kernel, rfl⟩
theorem d_txt_addNumber_25 : cf_D k_txt_addNumber 25 (.ifCond .lt 31) 3 28 := ⟨by decide +kernel, rfl⟩
theorem d_txt_addNumber_28 : cf_D k_txt_addNumber 28 (.aload_n 0) 1 29 := ⟨by decide +kernel, rfl⟩
theorem d_txt_addNumber_29 : cf_D k_txt_addNumber 29 (.ldc2_w 36) 3 32 := ⟨by decide +kernel, rfl⟩
theorem d_txt_addNumber_32 : cf_D k_txt_addNumber 32 (.lload_n 1) 1 33 := ⟨by decide +kernel, rfl⟩
theorem d_txt_addNumber_33 : cf_D k_txt_addNumber 33 (.getstatic 29) 3 36 := ⟨by decide +kernel, rfl⟩
theorem d_txt_addNumber_36 : cf_D k_txt_addNumber 36 (.iload 5) 2 38 := ⟨by decide +kernel, rfl⟩
theorem d_txt_addNumber_38 : cf_D k_txt_addNumber 38 (.laload) 1 39 := ⟨by decide +kernel, rfl⟩
theorem d_txt_addNumber_39 : cf_D k_txt_addNumber 39 (.ldiv) 1 40 := ⟨by decide +kernel, rfl⟩
theorem d_txt_addNumber_40 : cf_D k_txt_addNumber 40 (.ldc2_w 38) 3 43 := ⟨by decide +kernel, rfl⟩
theorem d_txt_addNumber_43 : cf_D k_txt_addNumber 43 (.lrem) 1 44 := ⟨by decide +kernel, rfl⟩
theorem d_txt_addNumber_44 : cf_D k_txt_addNumber 44 (.ladd) 1 45 := ⟨by decide +kernel, rfl⟩
theorem d_txt_addNumber_45 : cf_D k_txt_addNumber 45 (.l2i) 1 46 := ⟨by decide +kernel, rfl⟩
theorem d_txt_addNumber_46 : cf_D k_txt_addNumber 46 (.i2c) 1 47 := ⟨by decide +kernel, rfl⟩
theorem d_txt_addNumber_47 : cf_D k_txt_addNumber 47 (.invokevirtual 40) 3 50 := ⟨by decide +kernel, rfl⟩
theorem d_txt_addNumber_50 : cf_D k_txt_addNumber 50 (.iinc 5 (-1)) 3 53 := ⟨by decide +kernel, rfl⟩
theorem d_txt_addNumber_53 : cf_D k_txt_addNumber 53 (.goto (-30)) 3 56 := ⟨by decide +kernel, rfl⟩
theorem d_txt_addNumber_56 : cf_D k_txt_addNumber 56 (.return_) 1 57 := ⟨by decide +kernel, rfl⟩
theorem d_fmt_countDigits_0 : cf_D k_fmt_countDigits 0 (.iconst 1) 1 1 := ⟨by decide +kernel, rfl⟩
theorem d_fmt_countDigits_1 : cf_D k_fmt_countDigits 1 (.istore_n 2) 1 2 := ⟨by decide +kernel, rfl⟩
theorem d_fmt_countDigits_2 : cf_D k_fmt_countDigits 2 (.iload_n 2) 1 3 := ⟨by decide +kernel, rfl⟩
theorem d_fmt_countDigits_3 : cf_D k_fmt_countDigits 3 (.getstatic 195) 3 6 := ⟨by decide +kernel, rfl⟩
theorem d_fmt_countDigits_6 : cf_D k_fmt_countDigits 6 (.arraylength) 1 7 := ⟨by decide +kernel, rfl⟩
theorem d_fmt_countDigits_7 : cf_D k_fmt_countDigits 7 (.if_icmp .ge 21) 3 10 := ⟨by decide +kernel, rfl⟩
theorem d_fmt_countDigits_10 : cf_D k_fmt_countDigits 10 (.lload_n 0) 1 11 := ⟨by decide +kernel, rfl⟩
theorem d_fmt_countDigits_11 : cf_D k_fmt_countDigits 11 (.getstatic 195) 3 14 := ⟨by decide +kernel, rfl⟩
theorem d_fmt_countDigits_14 : cf_D k_fmt_countDigits 14 (.iload_n 2) 1 15 := ⟨by decide +kernel, rfl⟩
theorem d_fmt_countDigits_15 : cf_D k_fmt_countDigits 15 (.laload) 1 16 := ⟨by decide +kernel, rfl⟩
theorem d_fmt_countDigits_16 : cf_D k_fmt_countDigits 16 (.lcmp) 1 17 := ⟨by decide +kernel, rfl⟩
theorem d_fmt_countDigits_17 : cf_D k_fmt_countDigits 17 (.ifCond .ge 5) 3 20 := ⟨by decide +kernel, rfl⟩
theorem d_fmt_countDigits_20 : cf_D k_fmt_countDigits 20 (.iload_n 2) 1 21 := ⟨by decide +kernel, rfl⟩
theorem d_fmt_countDigits_21 : cf_D k_fmt_countDigits 21 (.ireturn) 1 22 := ⟨by decide +kernel, rfl⟩
theorem d_fmt_countDigits_22 : cf_D k_fmt_countDigits 22 (.iinc 2 1) 3 25 := ⟨by decide +kernel, rfl⟩
theorem d_fmt_countDigits_25 : cf_D k_fmt_countDigits 25 (.goto (-23)) 3 28 := ⟨by decide +kernel, rfl⟩
theorem d_fmt_countDigits_28 : cf_D k_fmt_countDigits 28 (.getstatic 195) 3 31 := ⟨by decide +kernel, rfl⟩
theorem d_fmt_countDigits_31 : cf_D k_fmt_countDigits 31 (.arraylength) 1 32 := ⟨by decide +kernel, rfl⟩
theorem d_fmt_countDigits_32 : cf_D k_fmt_countDigits 32 (.ireturn) 1 33 := ⟨by decide +kernel, rfl⟩
theorem d_mom_hour_0 : cf_D k_mom_hour 0 (.aload_n 0) 1 1 := ⟨by decide +kernel, rfl⟩
theorem d_mom_hour_1 : cf_D k_mom_hour 1 (.getfield 63) 3 4 := ⟨by decide +kernel, rfl⟩
theorem d_mom_hour_4 : cf_D k_mom_hour 4 (.sipush 3600) 3 7 := ⟨by decide +kernel, rfl⟩
theorem d_mom_hour_7 : cf_D k_mom_hour 7 (.idiv) 1 8 := ⟨by decide +kernel, rfl⟩
theorem d_mom_hour_8 : cf_D k_mom_hour 8 (.ireturn) 1 9 := ⟨by decide +kernel, rfl⟩
theorem d_mom_writeField_0 : cf_D k_mom_writeField 0 (.iload_n 1) 1 1 := ⟨by decide +kernel, rfl⟩
theorem d_mom_writeField_1 : cf_D k_mom_writeField 1 (.bipush 121) 2 3 := ⟨by decide +kernel, rfl⟩
theorem d_mom_writeField_3 : cf_D k_mom_writeField 3 (.if_icmp .eq 8) 3 6 := ⟨by decide +kernel, rfl⟩
theorem d_mom_writeField_6 : cf_D k_mom_writeField 6 (.iload_n 2) 1 7 := ⟨by decide +kernel, rfl⟩
theorem d_mom_writeField_7 : cf_D k_mom_writeField 7 (.iconst 3) 1 8 := ⟨by decide +kernel, rfl⟩
theorem d_mom_writeField_8 : cf_D k_mom_writeField 8 (.if_icmp .ge 22) 3 11 := ⟨by decide +kernel, rfl⟩
theorem d_mom_writeField_11 : cf_D k_mom_writeField 11 (.aload_n 0) 1 12 := ⟨by decide +kernel, rfl⟩
theorem d_mom_writeField_12 : cf_D k_mom_writeField 12 (.getfield 9) 3 15 := ⟨by decide +kernel, rfl⟩
theorem d_mom_writeField_15 : cf_D k_mom_writeField 15 (.aload_n 0) 1 16 := ⟨by decide +kernel, rfl⟩
theorem d_mom_writeField_16 : cf_D k_mom_writeField 16 (.iload_n 1) 1 17 := ⟨by decide +kernel, rfl⟩
theorem d_mom_writeField_17 : cf_D k_mom_writeField 17 (.iload_n 2) 1 18 := ⟨by decide +kernel, rfl⟩
theorem d_mom_writeField_18 : cf_D k_mom_writeField 18 (.iload_n 3) 1 19 := ⟨by decide +kernel, rfl⟩
theorem d_mom_writeField_19 : cf_D k_mom_writeField 19 (.invokevirtual 104) 3 22 := ⟨by decide +kernel, rfl⟩
theorem d_mom_writeField_22 : cf_D k_mom_writeField 22 (.i2l) 1 23 := ⟨by decide +kernel, rfl⟩
theorem d_mom_writeField_23 : cf_D k_mom_writeField 23 (.iload_n 2) 1 24 := ⟨by decide +kernel, rfl⟩
theorem d_mom_writeField_24 : cf_D k_mom_writeField 24 (.invokevirtual 98) 3 27 := ⟨by decide +kernel, rfl⟩
theorem d_mom_writeField_27 : cf_D k_mom_writeField 27 (.goto 38) 3 30 := ⟨by decide +kernel, rfl⟩
theorem d_mom_writeField_30 : cf_D k_mom_writeField 30 (.iload_n 1) 1 31 := ⟨by decide +kernel, rfl⟩
theorem d_mom_writeField_31 : cf_D k_mom_writeField 31 (.bipush 109) 2 33 := ⟨by decide +kernel, rfl⟩
theorem d_mom_writeField_33 : cf_D k_mom_writeField 33 (.if_icmp .ne 19) 3 36 := ⟨by decide +kernel, rfl⟩
theorem d_mom_writeField_36 : cf_D k_mom_writeField 36 (.aload_n 0) 1 37 := ⟨by decide +kernel, rfl⟩
theorem d_mom_writeField_37 : cf_D k_mom_writeField 37 (.ldc 108) 2 39 := ⟨by decide +kernel, rfl⟩
theorem d_mom_writeField_39 : cf_D k_mom_writeField 39 (.aload_n 0) 1 40 := ⟨by decide +kernel, rfl⟩
theorem d_mom_writeField_40 : cf_D k_mom_writeField 40 (.getfield 15) 3 43 := ⟨by decide +kernel, rfl⟩
theorem d_mom_writeField_43 : cf_D k_mom_writeField 43 (.getfield 110) 3 46 := ⟨by decide +kernel, rfl⟩
theorem d_mom_writeField_46 : cf_D k_mom_writeField 46 (.invokevirtual 113) 3 49 := ⟨by decide +kernel, rfl⟩
theorem d_mom_writeField_49 : cf_D k_mom_writeField 49 (.goto 16) 3 52 := ⟨by decide +kernel, rfl⟩
theorem d_mom_writeField_52 : cf_D k_mom_writeField 52 (.aload_n 0) 1 53 := ⟨by decide +kernel, rfl⟩
theorem d_mom_writeField_53 : cf_D k_mom_writeField 53 (.ldc 117) 2 55 := ⟨by decide +kernel, rfl⟩
theorem d_mom_writeField_55 : cf_D k_mom_writeField 55 (.aload_n 0) 1 56 := ⟨by decide +kernel, rfl⟩
theorem d_mom_writeField_56 : cf_D k_mom_writeField 56 (.getfield 15) 3 59 := ⟨by decide +kernel, rfl⟩
theorem d_mom_writeField_59 : cf_D k_mom_writeField 59 (.getfield 119) 3 62 := ⟨by decide +kernel, rfl⟩
theorem d_mom_writeField_62 : cf_D k_mom_writeField 62 (.invokevirtual 113) 3 65 := ⟨by decide +kernel, rfl⟩
theorem d_mom_writeField_65 : cf_D k_mom_writeField 65 (.return_) 1 66 := ⟨by decide +kernel, rfl⟩
theorem d_mom_numberOf_0 : cf_D k_mom_numberOf 0 (.iload_n 1) 1 1 := ⟨by decide +kernel, rfl⟩
theorem d_mom_numberOf_1 : cf_D k_mom_numberOf 1 (.bipush 121) 2 3 := ⟨by decide +kernel, rfl⟩
theorem d_mom_numberOf_3 : cf_D k_mom_numberOf 3 (.if_icmp .ne 29) 3 6 := ⟨by decide +kernel, rfl⟩
theorem d_mom_numberOf_6 : cf_D k_mom_numberOf 6 (.iload_n 2) 1 7 := ⟨by decide +kernel, rfl⟩
theorem d_mom_numberOf_7 : cf_D k_mom_numberOf 7 (.iconst 2) 1 8 := ⟨by decide +kernel, rfl⟩
theorem d_mom_numberOf_8 : cf_D k_mom_numberOf 8 (.if_icmp .ne 16) 3 11 := ⟨by decide +kernel, rfl⟩
theorem d_mom_numberOf_11 : cf_D k_mom_numberOf 11 (.aload_n 0) 1 12 := ⟨by decide +kernel, rfl⟩
theorem d_mom_numberOf_12 : cf_D k_mom_numberOf 12 (.getfield 15) 3 15 := ⟨by decide +kernel, rfl⟩
theorem d_mom_numberOf_15 : cf_D k_mom_numberOf 15 (.getfield 122) 3 18 := ⟨by decide +kernel, rfl⟩
theorem d_mom_numberOf_18 : cf_D k_mom_numberOf 18 (.bipush 100) 2 20 := ⟨by decide +kernel, rfl⟩
theorem d_mom_numberOf_20 : cf_D k_mom_numberOf 20 (.irem) 1 21 := ⟨by decide +kernel, rfl⟩
theorem d_mom_numberOf_21 : cf_D k_mom_numberOf 21 (.goto 10) 3 24 := ⟨by decide +kernel, rfl⟩
theorem d_mom_numberOf_24 : cf_D k_mom_numberOf 24 (.aload_n 0) 1 25 := ⟨by decide +kernel, rfl⟩
theorem d_mom_numberOf_25 : cf_D k_mom_numberOf 25 (.getfield 15) 3 28 := ⟨by decide +kernel, rfl⟩
theorem d_mom_numberOf_28 : cf_D k_mom_numberOf 28 (.getfield 122) 3 31 := ⟨by decide +kernel, rfl⟩
theorem d_mom_numberOf_31 : cf_D k_mom_numberOf 31 (.ireturn) 1 32 := ⟨by decide +kernel, rfl⟩
theorem d_mom_numberOf_32 : cf_D k_mom_numberOf 32 (.iload_n 1) 1 33 := ⟨by decide +kernel, rfl⟩
theorem d_mom_numberOf_33 : cf_D k_mom_numberOf 33 (.bipush 109) 2 35 := ⟨by decide +kernel, rfl⟩
theorem d_mom_numberOf_35 : cf_D k_mom_numberOf 35 (.if_icmp .ne 11) 3 38 := ⟨by decide +kernel, rfl⟩
theorem d_mom_numberOf_38 : cf_D k_mom_numberOf 38 (.aload_n 0) 1 39 := ⟨by decide +kernel, rfl⟩
theorem d_mom_numberOf_39 : cf_D k_mom_numberOf 39 (.getfield 15) 3 42 := ⟨by decide +kernel, rfl⟩
theorem d_mom_numberOf_42 : cf_D k_mom_numberOf 42 (.getfield 110) 3 45 := ⟨by decide +kernel, rfl⟩
theorem d_mom_numberOf_45 : cf_D k_mom_numberOf 45 (.ireturn) 1 46 := ⟨by decide +kernel, rfl⟩
theorem d_mom_numberOf_46 : cf_D k_mom_numberOf 46 (.iload_n 1) 1 47 := ⟨by decide +kernel, rfl⟩
theorem d_mom_numberOf_47 : cf_D k_mom_numberOf 47 (.bipush 100) 2 49 := ⟨by decide +kernel, rfl⟩
theorem d_mom_numberOf_49 : cf_D k_mom_numberOf 49 (.if_icmp .ne 11) 3 52 := ⟨by decide +kernel, rfl⟩
theorem d_mom_numberOf_52 : cf_D k_mom_numberOf 52 (.aload_n 0) 1 53 := ⟨by decide +kernel, rfl⟩
theorem d_mom_numberOf_53 : cf_D k_mom_numberOf 53 (.getfield 15) 3 56 := ⟨by decide +kernel, rfl⟩
theorem d_mom_numberOf_56 : cf_D k_mom_numberOf 56 (.getfield 125) 3 59 := ⟨by decide +kernel, rfl⟩
theorem d_mom_numberOf_59 : cf_D k_mom_numberOf 59 (.ireturn) 1 60 := ⟨by decide +kernel, rfl⟩
theorem d_mom_numberOf_60 : cf_D k_mom_numberOf 60 (.iload_n 1) 1 61 := ⟨by decide +kernel, rfl⟩
theorem d_mom_numberOf_61 : cf_D k_mom_numberOf 61 (.bipush 104) 2 63 := ⟨by decide +kernel, rfl⟩
theorem d_mom_numberOf_63 : cf_D k_mom_numberOf 63 (.if_icmp .ne 27) 3 66 := ⟨by decide +kernel, rfl⟩
theorem d_mom_numberOf_66 : cf_D k_mom_numberOf 66 (.iload_n 3) 1 67 := ⟨by decide +kernel, rfl⟩
theorem d_mom_numberOf_67 : cf_D k_mom_numberOf 67 (.ifCond .eq 18) 3 70 := ⟨by decide +kernel, rfl⟩
theorem d_mom_numberOf_70 : cf_D k_mom_numberOf 70 (.aload_n 0) 1 71 := ⟨by decide +kernel, rfl⟩
theorem d_mom_numberOf_71 : cf_D k_mom_numberOf 71 (.invokevirtual 86) 3 74 := ⟨by decide +kernel, rfl⟩
theorem d_mom_numberOf_74 : cf_D k_mom_numberOf 74 (.bipush 11) 2 76 := ⟨by decide +kernel, rfl⟩
theorem d_mom_numberOf_76 : cf_D k_mom_numberOf 76 (.iadd) 1 77 := ⟨by decide +kernel, rfl⟩
theorem d_mom_numberOf_77 : cf_D k_mom_numberOf 77 (.bipush 12) 2 79 := ⟨by decide +kernel, rfl⟩
theorem d_mom_numberOf_79 : cf_D k_mom_numberOf 79 (.irem) 1 80 := ⟨by decide +kernel, rfl⟩
theorem d_mom_numberOf_80 : cf_D k_mom_numberOf 80 (.iconst 1) 1 81 := ⟨by decide +kernel, rfl⟩
theorem d_mom_numberOf_81 : cf_D k_mom_numberOf 81 (.iadd) 1 82 := ⟨by decide +kernel, rfl⟩
theorem d_mom_numberOf_82 : cf_D k_mom_numberOf 82 (.goto 7) 3 85 := ⟨by decide +kernel, rfl⟩
theorem d_mom_numberOf_85 : cf_D k_mom_numberOf 85 (.aload_n 0) 1 86 := ⟨by decide +kernel, rfl⟩
theorem d_mom_numberOf_86 : cf_D k_mom_numberOf 86 (.invokevirtual 86) 3 89 := ⟨by decide +kernel, rfl⟩
theorem d_mom_numberOf_89 : cf_D k_mom_numberOf 89 (.ireturn) 1 90 := ⟨by decide +kernel, rfl⟩
theorem d_mom_numberOf_90 : cf_D k_mom_numberOf 90 (.iload_n 1) 1 91 := ⟨by decide +kernel, rfl⟩
theorem d_mom_numberOf_91 : cf_D k_mom_numberOf 91 (.bipush 110) 2 93 := ⟨by decide +kernel, rfl⟩
theorem d_mom_numberOf_93 : cf_D k_mom_numberOf 93 (.if_icmp .ne 16) 3 96 := ⟨by decide +kernel, rfl⟩
theorem d_mom_numberOf_96 : cf_D k_mom_numberOf 96 (.aload_n 0) 1 97 := ⟨by decide +kernel, rfl⟩
theorem d_mom_numberOf_97 : cf_D k_mom_numberOf 97 (.getfield 63) 3 100 := ⟨by decide +kernel, rfl⟩
theorem d_mom_numberOf_100 : cf_D k_mom_numberOf 100 (.bipush 60) 2 102 := ⟨by decide +kernel, rfl⟩
theorem d_mom_numberOf_102 : cf_D k_mom_numberOf 102 (.idiv) 1 103 := ⟨by decide +kernel, rfl⟩
theorem d_mom_numberOf_103 : cf_D k_mom_numberOf 103 (.bipush 60) 2 105 := ⟨by decide +kernel, rfl⟩
theorem d_mom_numberOf_105 : cf_D k_mom_numberOf 105 (.irem) 1 106 := ⟨by decide +kernel, rfl⟩
theorem d_mom_numberOf_106 : cf_D k_mom_numberOf 106 (.goto 10) 3 109 := ⟨by decide +kernel, rfl⟩
theorem d_mom_numberOf_109 : cf_D k_mom_numberOf 109 (.aload_n 0) 1 110 := ⟨by decide +kernel, rfl⟩
theorem d_mom_numberOf_110 : cf_D k_mom_numberOf 110 (.getfield 63) 3 113 := ⟨by decide +kernel, rfl⟩
theorem d_mom_numberOf_113 : cf_D k_mom_numberOf 113 (.bipush 60) 2 115 := ⟨by decide +kernel, rfl⟩
theorem d_mom_numberOf_115 : cf_D k_mom_numberOf 115 (.irem) 1 116 := ⟨by decide +kernel, rfl⟩
theorem d_mom_numberOf_116 : cf_D k_mom_numberOf 116 (.ireturn) 1 117 := ⟨by decide +kernel, rfl⟩
theorem d_mom_writeName_0 : cf_D k_mom_writeName 0 (.iload_n 2) 1 1 := ⟨by decide +kernel, rfl⟩
theorem d_mom_writeName_1 : cf_D k_mom_writeName 1 (.iconst 1) 1 2 := ⟨by decide +kernel, rfl⟩
theorem d_mom_writeName_2 : cf_D k_mom_writeName 2 (.isub) 1 3 := ⟨by decide +kernel, rfl⟩
theorem d_mom_writeName_3 : cf_D k_mom_writeName 3 (.iconst 3) 1 4 := ⟨by decide +kernel, rfl⟩
theorem d_mom_writeName_4 : cf_D k_mom_writeName 4 (.imul) 1 5 := ⟨by decide +kernel, rfl⟩
theorem d_mom_writeName_5 : cf_D k_mom_writeName 5 (.istore_n 3) 1 6 := ⟨by decide +kernel, rfl⟩
theorem d_mom_writeName_6 : cf_D k_mom_writeName 6 (.iload_n 3) 1 7 := ⟨by decide +kernel, rfl⟩
theorem d_mom_writeName_7 : cf_D k_mom_writeName 7 (.istore 4) 2 9 := ⟨by decide +kernel, rfl⟩
theorem d_mom_writeName_9 : cf_D k_mom_writeName 9 (.iload 4) 2 11 := ⟨by decide +kernel, rfl⟩
theorem d_mom_writeName_11 : cf_D k_mom_writeName 11 (.iload_n 3) 1 12 := ⟨by decide +kernel, rfl⟩
theorem d_mom_writeName_12 : cf_D k_mom_writeName 12 (.iconst 3) 1 13 := ⟨by decide +kernel, rfl⟩
theorem d_mom_writeName_13 : cf_D k_mom_writeName 13 (.iadd) 1 14 := ⟨by decide +kernel, rfl⟩
theorem d_mom_writeName_14 : cf_D k_mom_writeName 14 (.if_icmp .ge 36) 3 17 := ⟨by decide +kernel, rfl⟩
theorem d_mom_writeName_17 : cf_D k_mom_writeName 17 (.iload 4) 2 19 := ⟨by decide +kernel, rfl⟩
theorem d_mom_writeName_19 : cf_D k_mom_writeName 19 (.ifCond .lt 25) 3 22 := ⟨by decide +kernel, rfl⟩
theorem d_mom_writeName_22 : cf_D k_mom_writeName 22 (.iload 4) 2 24 := ⟨by decide +kernel, rfl⟩
theorem d_mom_writeName_24 : cf_D k_mom_writeName 24 (.aload_n 1) 1 25 := ⟨by decide +kernel, rfl⟩
theorem d_mom_writeName_25 : cf_D k_mom_writeName 25 (.invokevirtual 128) 3 28 := ⟨by decide +kernel, rfl⟩
theorem d_mom_writeName_28 : cf_D k_mom_writeName 28 (.if_icmp .ge 16) 3 31 := ⟨by decide +kernel, rfl⟩
theorem d_mom_writeName_31 : cf_D k_mom_writeName 31 (.aload_n 0) 1 32 := ⟨by decide +kernel, rfl⟩
theorem d_mom_writeName_32 : cf_D k_mom_writeName 32 (.getfield 9) 3 35 := ⟨by decide +kernel, rfl⟩
theorem d_mom_writeName_35 : cf_D k_mom_writeName 35 (.aload_n 1) 1 36 := ⟨by decide +kernel, rfl⟩
theorem d_mom_writeName_36 : cf_D k_mom_writeName 36 (.iload 4) 2 38 := ⟨by decide +kernel, rfl⟩
theorem d_mom_writeName_38 : cf_D k_mom_writeName 38 (.invokevirtual 133) 3 41 := ⟨by decide +kernel, rfl⟩
theorem d_mom_writeName_41 : cf_D k_mom_writeName 41 (.invokevirtual 76) 3 44 := ⟨by decide +kernel, rfl⟩
theorem d_mom_writeName_44 : cf_D k_mom_writeName 44 (.iinc 4 1) 3 47 := ⟨by decide +kernel, rfl⟩
theorem d_mom_writeName_47 : cf_D k_mom_writeName 47 (.goto (-38)) 3 50 := ⟨by decide +kernel, rfl⟩
theorem d_mom_writeName_50 : cf_D k_mom_writeName 50 (.return_) 1 51 := ⟨by decide +kernel, rfl⟩
theorem d_math_abs_J_0 : cf_D k_math_abs_J 0 (.lload_n 0) 1 1 := ⟨by decide +kernel, rfl⟩
theorem d_math_abs_J_1 : cf_D k_math_abs_J 1 (.lconst 0) 1 2 := ⟨by decide +kernel, rfl⟩
theorem d_math_abs_J_2 : cf_D k_math_abs_J 2 (.lcmp) 1 3 := ⟨by decide +kernel, rfl⟩
theorem d_math_abs_J_3 : cf_D k_math_abs_J 3 (.ifCond .ge 8) 3 6 := ⟨by decide +kernel, rfl⟩
theorem d_math_abs_J_6 : cf_D k_math_abs_J 6 (.lload_n 0) 1 7 := ⟨by decide +kernel, rfl⟩
theorem d_math_abs_J_7 : cf_D k_math_abs_J 7 (.lneg) 1 8 := ⟨by decide +kernel, rfl⟩
theorem d_math_abs_J_8 : cf_D k_math_abs_J 8 (.goto 4) 3 11 := ⟨by decide +kernel, rfl⟩
theorem d_math_abs_J_11 : cf_D k_math_abs_J 11 (.lload_n 0) 1 12 := ⟨by decide +kernel, rfl⟩
theorem d_math_abs_J_12 : cf_D k_math_abs_J 12 (.lreturn) 1 13 := ⟨by decide +kernel, rfl⟩
theorem d_num_write_0 : cf_D k_num_write 0 (.aload_n 0) 1 1 := ⟨by decide +kernel, rfl⟩
theorem d_num_write_1 : cf_D k_num_write 1 (.aload_n 2) 1 2 := ⟨by decide +kernel, rfl⟩
theorem d_num_write_2 : cf_D k_num_write 2 (.lload_n 3) 1 3 := ⟨by decide +kernel, rfl⟩
theorem d_num_write_3 : cf_D k_num_write 3 (.invokevirtual 25) 3 6 := ⟨by decide +kernel, rfl⟩
theorem d_num_write_6 : cf_D k_num_write 6 (.iload 5) 2 8 := ⟨by decide +kernel, rfl⟩
theorem d_num_write_8 : cf_D k_num_write 8 (.ifCond .eq 22) 3 11 := ⟨by decide +kernel, rfl⟩
theorem d_num_write_11 : cf_D k_num_write 11 (.aload_n 0) 1 12 := ⟨by decide +kernel, rfl⟩
theorem d_num_write_12 : cf_D k_num_write 12 (.getfield 18) 3 15 := ⟨by decide +kernel, rfl⟩
theorem d_num_write_15 : cf_D k_num_write 15 (.invokevirtual 29) 3 18 := ⟨by decide +kernel, rfl⟩
theorem d_num_write_18 : cf_D k_num_write 18 (.ifCond .ne 12) 3 21 := ⟨by decide +kernel, rfl⟩
theorem d_num_write_21 : cf_D k_num_write 21 (.aload_n 0) 1 22 := ⟨by decide +kernel, rfl⟩
theorem d_num_write_22 : cf_D k_num_write 22 (.getfield 9) 3 25 := ⟨by decide +kernel, rfl⟩
theorem d_num_write_25 : cf_D k_num_write 25 (.bipush 45) 2 27 := ⟨by decide +kernel, rfl⟩
theorem d_num_write_27 : cf_D k_num_write 27 (.invokevirtual 33) 3 30 := ⟨by decide +kernel, rfl⟩
theorem d_num_write_30 : cf_D k_num_write 30 (.aload_n 2) 1 31 := ⟨by decide +kernel, rfl⟩
theorem d_num_write_31 : cf_D k_num_write 31 (.getfield 39) 3 34 := ⟨by decide +kernel, rfl⟩
theorem d_num_write_34 : cf_D k_num_write 34 (.istore 6) 2 36 := ⟨by decide +kernel, rfl⟩
theorem d_num_write_36 : cf_D k_num_write 36 (.iload 6) 2 38 := ⟨by decide +kernel, rfl⟩
theorem d_num_write_38 : cf_D k_num_write 38 (.aload_n 2) 1 39 := ⟨by decide +kernel, rfl⟩
theorem d_num_write_39 : cf_D k_num_write 39 (.getfield 45) 3 42 := ⟨by decide +kernel, rfl⟩
theorem d_num_write_42 : cf_D k_num_write 42 (.if_icmp .ge 91) 3 45 := ⟨by decide +kernel, rfl⟩
theorem d_num_write_45 : cf_D k_num_write 45 (.aload_n 1) 1 46 := ⟨by decide +kernel, rfl⟩
theorem d_num_write_46 : cf_D k_num_write 46 (.iload 6) 2 48 := ⟨by decide +kernel, rfl⟩
theorem d_num_write_48 : cf_D k_num_write 48 (.invokevirtual 48) 3 51 := ⟨by decide +kernel, rfl⟩
theorem d_num_write_51 : cf_D k_num_write 51 (.istore 7) 2 53 := ⟨by decide +kernel, rfl⟩
theorem d_num_write_53 : cf_D k_num_write 53 (.iload 7) 2 55 := ⟨by decide +kernel, rfl⟩
theorem d_num_write_55 : cf_D k_num_write 55 (.iconst 2) 1 56 := ⟨by decide +kernel, rfl⟩
theorem d_num_write_56 : cf_D k_num_write 56 (.if_icmp .ne 19) 3 59 := ⟨by decide +kernel, rfl⟩
theorem d_num_write_59 : cf_D k_num_write 59 (.aload_n 0) 1 60 := ⟨by decide +kernel, rfl⟩
theorem d_num_write_60 : cf_D k_num_write 60 (.aload_n 2) 1 61 := ⟨by decide +kernel, rfl⟩
theorem d_num_write_61 : cf_D k_num_write 61 (.iload 6) 2 63 := ⟨by decide +kernel, rfl⟩
theorem d_num_write_63 : cf_D k_num_write 63 (.aload_n 1) 1 64 := ⟨by decide +kernel, rfl⟩
theorem d_num_write_64 : cf_D k_num_write 64 (.iload 6) 2 66 := ⟨by decide +kernel, rfl⟩
theorem d_num_write_66 : cf_D k_num_write 66 (.invokevirtual 54) 3 69 := ⟨by decide +kernel, rfl⟩
theorem d_num_write_69 : cf_D k_num_write 69 (.invokevirtual 57) 3 72 := ⟨by decide +kernel, rfl⟩
theorem d_num_write_72 : cf_D k_num_write 72 (.goto 55) 3 75 := ⟨by decide +kernel, rfl⟩
theorem d_num_write_75 : cf_D k_num_write 75 (.iload 7) 2 77 := ⟨by decide +kernel, rfl⟩
theorem d_num_write_77 : cf_D k_num_write 77 (.bipush 6) 2 79 := ⟨by decide +kernel, rfl⟩
theorem d_num_write_79 : cf_D k_num_write 79 (.if_icmp .ne 16) 3 82 := ⟨by decide +kernel, rfl⟩
theorem d_num_write_82 : cf_D k_num_write 82 (.aload_n 0) 1 83 := ⟨by decide +kernel, rfl⟩
theorem d_num_write_83 : cf_D k_num_write 83 (.aload_n 1) 1 84 := ⟨by decide +kernel, rfl⟩
theorem d_num_write_84 : cf_D k_num_write 84 (.iload 6) 2 86 := ⟨by decide +kernel, rfl⟩
theorem d_num_write_86 : cf_D k_num_write 86 (.invokevirtual 54) 3 89 := ⟨by decide +kernel, rfl⟩
theorem d_num_write_89 : cf_D k_num_write 89 (.invokevirtual 61) 3 92 := ⟨by decide +kernel, rfl⟩
theorem d_num_write_92 : cf_D k_num_write 92 (.goto 35) 3 95 := ⟨by decide +kernel, rfl⟩
theorem d_num_write_95 : cf_D k_num_write 95 (.iload 7) 2 97 := ⟨by decide +kernel, rfl⟩
theorem d_num_write_97 : cf_D k_num_write 97 (.iconst 1) 1 98 := ⟨by decide +kernel, rfl⟩
theorem d_num_write_98 : cf_D k_num_write 98 (.if_icmp .eq 15) 3 101 := ⟨by decide +kernel, rfl⟩
theorem d_num_write_101 : cf_D k_num_write 101 (.iload 7) 2 103 := ⟨by decide +kernel, rfl⟩
theorem d_num_write_103 : cf_D k_num_write 103 (.iconst 5) 1 104 := ⟨by decide +kernel, rfl⟩
theorem d_num_write_104 : cf_D k_num_write 104 (.if_icmp .eq 9) 3 107 := ⟨by decide +kernel, rfl⟩
theorem d_num_write_107 : cf_D k_num_write 107 (.iload 7) 2 109 := ⟨by decide +kernel, rfl⟩
theorem d_num_write_109 : cf_D k_num_write 109 (.iconst 3) 1 110 := ⟨by decide +kernel, rfl⟩
theorem d_num_write_110 : cf_D k_num_write 110 (.if_icmp .ne 17) 3 113 := ⟨by decide +kernel, rfl⟩
theorem d_num_write_113 : cf_D k_num_write 113 (.aload_n 0) 1 114 := ⟨by decide +kernel, rfl⟩
theorem d_num_write_114 : cf_D k_num_write 114 (.getfield 9) 3 117 := ⟨by decide +kernel, rfl⟩
theorem d_num_write_117 : cf_D k_num_write 117 (.aload_n 1) 1 118 := ⟨by decide +kernel, rfl⟩
theorem d_num_write_118 : cf_D k_num_write 118 (.iload 6) 2 120 := ⟨by decide +kernel, rfl⟩
theorem d_num_write_120 : cf_D k_num_write 120 (.invokevirtual 54) 3 123 := ⟨by decide +kernel, rfl⟩
theorem d_num_write_123 : cf_D k_num_write 123 (.i2c) 1 124 := ⟨by decide +kernel, rfl⟩
theorem d_num_write_124 : cf_D k_num_write 124 (.invokevirtual 33) 3 127 := ⟨by decide +kernel, rfl⟩
theorem d_num_write_127 : cf_D k_num_write 127 (.iinc 6 1) 3 130 := ⟨by decide +kernel, rfl⟩
theorem d_num_write_130 : cf_D k_num_write 130 (.goto (-94)) 3 133 := ⟨by decide +kernel, rfl⟩
theorem d_num_write_133 : cf_D k_num_write 133 (.return_) 1 134 := ⟨by decide +kernel, rfl⟩
theorem d_num_prepare_0 : cf_D k_num_prepare 0 (.aload_n 0) 1 1 := ⟨by decide +kernel, rfl⟩
theorem d_num_prepare_1 : cf_D k_num_prepare 1 (.getfield 18) 3 4 := ⟨by decide +kernel, rfl⟩
theorem d_num_prepare_4 : cf_D k_num_prepare 4 (.lload_n 2) 1 5 := ⟨by decide +kernel, rfl⟩
theorem d_num_prepare_5 : cf_D k_num_prepare 5 (.iconst 2) 1 6 := ⟨by decide +kernel, rfl⟩
theorem d_num_prepare_6 : cf_D k_num_prepare 6 (.aload_n 1) 1 7 := ⟨by decide +kernel, rfl⟩
theorem d_num_prepare_7 : cf_D k_num_prepare 7 (.getfield 65) 3 10 := ⟨by decide +kernel, rfl⟩
theorem d_num_prepare_10 : cf_D k_num_prepare 10 (.imul) 1 11 := ⟨by decide +kernel, rfl⟩
theorem d_num_prepare_11 : cf_D k_num_prepare 11 (.iconst 3) 1 12 := ⟨by decide +kernel, rfl⟩
theorem d_num_prepare_12 : cf_D k_num_prepare 12 (.aload_n 1) 1 13 := ⟨by decide +kernel, rfl⟩
theorem d_num_prepare_13 : cf_D k_num_prepare 13 (.getfield 68) 3 16 := ⟨by decide +kernel, rfl⟩
theorem d_num_prepare_16 : cf_D k_num_prepare 16 (.imul) 1 17 := ⟨by decide +kernel, rfl⟩
theorem d_num_prepare_17 : cf_D k_num_prepare 17 (.isub) 1 18 := ⟨by decide +kernel, rfl⟩
theorem d_num_prepare_18 : cf_D k_num_prepare 18 (.bipush 6) 2 20 := ⟨by decide +kernel, rfl⟩
theorem d_num_prepare_20 : cf_D k_num_prepare 20 (.isub) 1 21 := ⟨by decide +kernel, rfl⟩
theorem d_num_prepare_21 : cf_D k_num_prepare 21 (.invokevirtual 71) 3 24 := ⟨by decide +kernel, rfl⟩
theorem d_num_prepare_24 : cf_D k_num_prepare 24 (.iconst 0) 1 25 := ⟨by decide +kernel, rfl⟩
theorem d_num_prepare_25 : cf_D k_num_prepare 25 (.istore 4) 2 27 := ⟨by decide +kernel, rfl⟩
theorem d_num_prepare_27 : cf_D k_num_prepare 27 (.aload_n 1) 1 28 := ⟨by decide +kernel, rfl⟩
theorem d_num_prepare_28 : cf_D k_num_prepare 28 (.invokevirtual 75) 3 31 := ⟨by decide +kernel, rfl⟩
theorem d_num_prepare_31 : cf_D k_num_prepare 31 (.ifCond .eq 23) 3 34 := ⟨by decide +kernel, rfl⟩
theorem d_num_prepare_34 : cf_D k_num_prepare 34 (.aload_n 0) 1 35 := ⟨by decide +kernel, rfl⟩
theorem d_num_prepare_35 : cf_D k_num_prepare 35 (.getfield 18) 3 38 := ⟨by decide +kernel, rfl⟩
theorem d_num_prepare_38 : cf_D k_num_prepare 38 (.aload_n 1) 1 39 := ⟨by decide +kernel, rfl⟩
theorem d_num_prepare_39 : cf_D k_num_prepare 39 (.getfield 78) 3 42 := ⟨by decide +kernel, rfl⟩
theorem d_num_prepare_42 : cf_D k_num_prepare 42 (.aload_n 1) 1 43 := ⟨by decide +kernel, rfl⟩
theorem d_num_prepare_43 : cf_D k_num_prepare 43 (.getfield 81) 3 46 := ⟨by decide +kernel, rfl⟩
theorem d_num_prepare_46 : cf_D k_num_prepare 46 (.invokevirtual 84) 3 49 := ⟨by decide +kernel, rfl⟩
theorem d_num_prepare_49 : cf_D k_num_prepare 49 (.istore 4) 2 51 := ⟨by decide +kernel, rfl⟩
theorem d_num_prepare_51 : cf_D k_num_prepare 51 (.goto 14) 3 54 := ⟨by decide +kernel, rfl⟩
theorem d_num_prepare_54 : cf_D k_num_prepare 54 (.aload_n 0) 1 55 := ⟨by decide +kernel, rfl⟩
theorem d_num_prepare_55 : cf_D k_num_prepare 55 (.getfield 18) 3 58 := ⟨by decide +kernel, rfl⟩
theorem d_num_prepare_58 : cf_D k_num_prepare 58 (.aload_n 1) 1 59 := ⟨by decide +kernel, rfl⟩
theorem d_num_prepare_59 : cf_D k_num_prepare 59 (.getfield 81) 3 62 := ⟨by decide +kernel, rfl⟩
theorem d_num_prepare_62 : cf_D k_num_prepare 62 (.invokevirtual 88) 3 65 := ⟨by decide +kernel, rfl⟩
theorem d_num_prepare_65 : cf_D k_num_prepare 65 (.aload_n 0) 1 66 := ⟨by decide +kernel, rfl⟩
theorem d_num_prepare_66 : cf_D k_num_prepare 66 (.iload 4) 2 68 := ⟨by decide +kernel, rfl⟩
theorem d_num_prepare_68 : cf_D k_num_prepare 68 (.ifCond .ge 7) 3 71 := ⟨by decide +kernel, rfl⟩
theorem d_num_prepare_71 : cf_D k_num_prepare 71 (.iconst 1) 1 72 := ⟨by decide +kernel, rfl⟩
theorem d_num_prepare_72 : cf_D k_num_prepare 72 (.goto 4) 3 75 := ⟨by decide +kernel, rfl⟩
theorem d_num_prepare_75 : cf_D k_num_prepare 75 (.iconst 0) 1 76 := ⟨by decide +kernel, rfl⟩
theorem d_num_prepare_76 : cf_D k_num_prepare 76 (.putfield 91) 3 79 := ⟨by decide +kernel, rfl⟩
theorem d_num_prepare_79 : cf_D k_num_prepare 79 (.aload_n 0) 1 80 := ⟨by decide +kernel, rfl⟩
theorem d_num_prepare_80 : cf_D k_num_prepare 80 (.getfield 22) 3 83 := ⟨by decide +kernel, rfl⟩
theorem d_num_prepare_83 : cf_D k_num_prepare 83 (.iload 4) 2 85 := ⟨by decide +kernel, rfl⟩
theorem d_num_prepare_85 : cf_D k_num_prepare 85 (.invokestatic 95) 3 88 := ⟨by decide +kernel, rfl⟩
theorem d_num_prepare_88 : cf_D k_num_prepare 88 (.i2l) 1 89 := ⟨by decide +kernel, rfl⟩
theorem d_num_prepare_89 : cf_D k_num_prepare 89 (.iconst 0) 1 90 := ⟨by decide +kernel, rfl⟩
theorem d_num_prepare_90 : cf_D k_num_prepare 90 (.invokevirtual 71) 3 93 := ⟨by decide +kernel, rfl⟩
theorem d_num_prepare_93 : cf_D k_num_prepare 93 (.aload_n 0) 1 94 := ⟨by decide +kernel, rfl⟩
theorem d_num_prepare_94 : cf_D k_num_prepare 94 (.aload_n 1) 1 95 := ⟨by decide +kernel, rfl⟩
theorem d_num_prepare_95 : cf_D k_num_prepare 95 (.getfield 78) 3 98 := ⟨by decide +kernel, rfl⟩
theorem d_num_prepare_98 : cf_D k_num_prepare 98 (.putfield 100) 3 101 := ⟨by decide +kernel, rfl⟩
theorem d_num_prepare_101 : cf_D k_num_prepare 101 (.aload_n 0) 1 102 := ⟨by decide +kernel, rfl⟩
theorem d_num_prepare_102 : cf_D k_num_prepare 102 (.iconst 0) 1 103 := ⟨by decide +kernel, rfl⟩
theorem d_num_prepare_103 : cf_D k_num_prepare 103 (.putfield 103) 3 106 := ⟨by decide +kernel, rfl⟩
theorem d_num_prepare_106 : cf_D k_num_prepare 106 (.aload_n 0) 1 107 := ⟨by decide +kernel, rfl⟩
theorem d_num_prepare_107 : cf_D k_num_prepare 107 (.aload_n 1) 1 108 := ⟨by decide +kernel, rfl⟩
theorem d_num_prepare_108 : cf_D k_num_prepare 108 (.getfield 106) 3 111 := ⟨by decide +kernel, rfl⟩
theorem d_num_prepare_111 : cf_D k_num_prepare 111 (.putfield 109) 3 114 := ⟨by decide +kernel, rfl⟩
theorem d_num_prepare_114 : cf_D k_num_prepare 114 (.return_) 1 115 := ⟨by decide +kernel, rfl⟩
theorem d_dec_set_0 : cf_D k_dec_set 0 (.aload_n 0) 1 1 := ⟨by decide +kernel, rfl⟩
theorem d_dec_set_1 : cf_D k_dec_set 1 (.lload_n 1) 1 2 := ⟨by decide +kernel, rfl⟩
theorem d_dec_set_2 : cf_D k_dec_set 2 (.putfield 7) 3 5 := ⟨by decide +kernel, rfl⟩
theorem d_dec_set_5 : cf_D k_dec_set 5 (.aload_n 0) 1 6 := ⟨by decide +kernel, rfl⟩
theorem d_dec_set_6 : cf_D k_dec_set 6 (.iload_n 3) 1 7 := ⟨by decide +kernel, rfl⟩
theorem d_dec_set_7 : cf_D k_dec_set 7 (.putfield 13) 3 10 := ⟨by decide +kernel, rfl⟩
theorem d_dec_set_10 : cf_D k_dec_set 10 (.return_) 1 11 := ⟨by decide +kernel, rfl⟩
theorem d_dec_takeExponent_0 : cf_D k_dec_takeExponent 0 (.aload_n 0) 1 1 := ⟨by decide +kernel, rfl⟩
theorem d_dec_takeExponent_1 : cf_D k_dec_takeExponent 1 (.invokevirtual 17) 3 4 := ⟨by decide +kernel, rfl⟩
theorem d_dec_takeExponent_4 : cf_D k_dec_takeExponent 4 (.ifCond .ne 7) 3 7 := ⟨by decide +kernel, rfl⟩
theorem d_dec_takeExponent_7 : cf_D k_dec_takeExponent 7 (.iload_n 1) 1 8 := ⟨by decide +kernel, rfl⟩
theorem d_dec_takeExponent_8 : cf_D k_dec_takeExponent 8 (.ifCond .gt 5) 3 11 := ⟨by decide +kernel, rfl⟩
theorem d_dec_takeExponent_11 : cf_D k_dec_takeExponent 11 (.iconst 0) 1 12 := ⟨by decide +kernel, rfl⟩
theorem d_dec_takeExponent_12 : cf_D k_dec_takeExponent 12 (.ireturn) 1 13 := ⟨by decide +kernel, rfl⟩
theorem d_dec_takeExponent_13 : cf_D k_dec_takeExponent 13 (.aload_n 0) 1 14 := ⟨by decide +kernel, rfl⟩
theorem d_dec_takeExponent_14 : cf_D k_dec_takeExponent 14 (.invokevirtual 35) 3 17 := ⟨by decide +kernel, rfl⟩
theorem d_dec_takeExponent_17 : cf_D k_dec_takeExponent 17 (.iload_n 1) 1 18 := ⟨by decide +kernel, rfl⟩
theorem d_dec_takeExponent_18 : cf_D k_dec_takeExponent 18 (.invokestatic 39) 3 21 := ⟨by decide +kernel, rfl⟩
theorem d_dec_takeExponent_21 : cf_D k_dec_takeExponent 21 (.iload_n 1) 1 22 := ⟨by decide +kernel, rfl⟩
theorem d_dec_takeExponent_22 : cf_D k_dec_takeExponent 22 (.imul) 1 23 := ⟨by decide +kernel, rfl⟩
theorem d_dec_takeExponent_23 : cf_D k_dec_takeExponent 23 (.istore_n 3) 1 24 := ⟨by decide +kernel, rfl⟩
theorem d_dec_takeExponent_24 : cf_D k_dec_takeExponent 24 (.aload_n 0) 1 25 := ⟨by decide +kernel, rfl⟩
theorem d_dec_takeExponent_25 : cf_D k_dec_takeExponent 25 (.dup) 1 26 := ⟨by decide +kernel, rfl⟩
theorem d_dec_takeExponent_26 : cf_D k_dec_takeExponent 26 (.getfield 13) 3 29 := ⟨by decide +kernel, rfl⟩
theorem d_dec_takeExponent_29 : cf_D k_dec_takeExponent 29 (.iload_n 3) 1 30 := ⟨by decide +kernel, rfl⟩
theorem d_dec_takeExponent_30 : cf_D k_dec_takeExponent 30 (.isub) 1 31 := ⟨by decide +kernel, rfl⟩
theorem d_dec_takeExponent_31 : cf_D k_dec_takeExponent 31 (.putfield 13) 3 34 := ⟨by decide +kernel, rfl⟩
theorem d_dec_takeExponent_34 : cf_D k_dec_takeExponent 34 (.aload_n 0) 1 35 := ⟨by decide +kernel, rfl⟩
theorem d_dec_takeExponent_35 : cf_D k_dec_takeExponent 35 (.iload_n 2) 1 36 := ⟨by decide +kernel, rfl⟩
theorem d_dec_takeExponent_36 : cf_D k_dec_takeExponent 36 (.invokevirtual 45) 3 39 := ⟨by decide +kernel, rfl⟩
theorem d_dec_takeExponent_39 : cf_D k_dec_takeExponent 39 (.aload_n 0) 1 40 := ⟨by decide +kernel, rfl⟩
theorem d_dec_takeExponent_40 : cf_D k_dec_takeExponent 40 (.invokevirtual 35) 3 43 := ⟨by decide +kernel, rfl⟩
theorem d_dec_takeExponent_43 : cf_D k_dec_takeExponent 43 (.iload_n 1) 1 44 := ⟨by decide +kernel, rfl⟩
theorem d_dec_takeExponent_44 : cf_D k_dec_takeExponent 44 (.if_icmp .lt 13) 3 47 := ⟨by decide +kernel, rfl⟩
theorem d_dec_takeExponent_47 : cf_D k_dec_takeExponent 47 (.aload_n 0) 1 48 := ⟨by decide +kernel, rfl⟩
theorem d_dec_takeExponent_48 : cf_D k_dec_takeExponent 48 (.lconst 1) 1 49 := ⟨by decide +kernel, rfl⟩
theorem d_dec_takeExponent_49 : cf_D k_dec_takeExponent 49 (.iconst 0) 1 50 := ⟨by decide +kernel, rfl⟩
theorem d_dec_takeExponent_50 : cf_D k_dec_takeExponent 50 (.invokevirtual 49) 3 53 := ⟨by decide +kernel, rfl⟩
theorem d_dec_takeExponent_53 : cf_D k_dec_takeExponent 53 (.iload_n 3) 1 54 := ⟨by decide +kernel, rfl⟩
theorem d_dec_takeExponent_54 : cf_D k_dec_takeExponent 54 (.iload_n 1) 1 55 := ⟨by decide +kernel, rfl⟩
theorem d_dec_takeExponent_55 : cf_D k_dec_takeExponent 55 (.iadd) 1 56 := ⟨by decide +kernel, rfl⟩
theorem d_dec_takeExponent_56 : cf_D k_dec_takeExponent 56 (.istore_n 3) 1 57 := ⟨by decide +kernel, rfl⟩
theorem d_dec_takeExponent_57 : cf_D k_dec_takeExponent 57 (.iload_n 3) 1 58 := ⟨by decide +kernel, rfl⟩
theorem d_dec_takeExponent_58 : cf_D k_dec_takeExponent 58 (.ireturn) 1 59 := ⟨by decide +kernel, rfl⟩
theorem d_dec_isZero_0 : cf_D k_dec_isZero 0 (.aload_n 0) 1 1 := ⟨by decide +kernel, rfl⟩
theorem d_dec_isZero_1 : cf_D k_dec_isZero 1 (.getfield 7) 3 4 := ⟨by decide +kernel, rfl⟩
theorem d_dec_isZero_4 : cf_D k_dec_isZero 4 (.lconst 0) 1 5 := ⟨by decide +kernel, rfl⟩
theorem d_dec_isZero_5 : cf_D k_dec_isZero 5 (.lcmp) 1 6 := ⟨by decide +kernel, rfl⟩
theorem d_dec_isZero_6 : cf_D k_dec_isZero 6 (.ifCond .ne 7) 3 9 := ⟨by decide +kernel, rfl⟩
theorem d_dec_isZero_9 : cf_D k_dec_isZero 9 (.iconst 1) 1 10 := ⟨by decide +kernel, rfl⟩
theorem d_dec_isZero_10 : cf_D k_dec_isZero 10 (.goto 4) 3 13 := ⟨by decide +kernel, rfl⟩
theorem d_dec_isZero_13 : cf_D k_dec_isZero 13 (.iconst 0) 1 14 := ⟨by decide +kernel, rfl⟩
theorem d_dec_isZero_14 : cf_D k_dec_isZero 14 (.ireturn) 1 15 := ⟨by decide +kernel, rfl⟩
theorem d_dec_highestPower_0 : cf_D k_dec_highestPower 0 (.aload_n 0) 1 1 := ⟨by decide +kernel, rfl⟩
theorem d_dec_highestPower_1 : cf_D k_dec_highestPower 1 (.invokevirtual 17) 3 4 := ⟨by decide +kernel, rfl⟩
theorem d_dec_highestPower_4 : cf_D k_dec_highestPower 4 (.ifCond .eq 7) 3 7 := ⟨by decide +kernel, rfl⟩
theorem d_dec_highestPower_7 : cf_D k_dec_highestPower 7 (.iconst (-1)) 1 8 := ⟨by decide +kernel, rfl⟩
theorem d_dec_highestPower_8 : cf_D k_dec_highestPower 8 (.goto 17) 3 11 := ⟨by decide +kernel, rfl⟩
theorem d_dec_highestPower_11 : cf_D k_dec_highestPower 11 (.aload_n 0) 1 12 := ⟨by decide +kernel, rfl⟩
theorem d_dec_highestPower_12 : cf_D k_dec_highestPower 12 (.getfield 7) 3 15 := ⟨by decide +kernel, rfl⟩
theorem d_dec_highestPower_15 : cf_D k_dec_highestPower 15 (.invokestatic 21) 3 18 := ⟨by decide +kernel, rfl⟩
theorem d_dec_highestPower_18 : cf_D k_dec_highestPower 18 (.iconst 1) 1 19 := ⟨by decide +kernel, rfl⟩
theorem d_dec_highestPower_19 : cf_D k_dec_highestPower 19 (.isub) 1 20 := ⟨by decide +kernel, rfl⟩
theorem d_dec_highestPower_20 : cf_D k_dec_highestPower 20 (.aload_n 0) 1 21 := ⟨by decide +kernel, rfl⟩
theorem d_dec_highestPower_21 : cf_D k_dec_highestPower 21 (.getfield 13) 3 24 := ⟨by decide +kernel, rfl⟩
theorem d_dec_highestPower_24 : cf_D k_dec_highestPower 24 (.iadd) 1 25 := ⟨by decide +kernel, rfl⟩
theorem d_dec_highestPower_25 : cf_D k_dec_highestPower 25 (.ireturn) 1 26 := ⟨by decide +kernel, rfl⟩
theorem d_math_floorDiv_0 : cf_D k_math_floorDiv 0 (.iload_n 0) 1 1 := ⟨by decide +kernel, rfl⟩
theorem d_math_floorDiv_1 : cf_D k_math_floorDiv 1 (.iload_n 1) 1 2 := ⟨by decide +kernel, rfl⟩
theorem d_math_floorDiv_2 : cf_D k_math_floorDiv 2 (.idiv) 1 3 := ⟨by decide +kernel, rfl⟩
theorem d_math_floorDiv_3 : cf_D k_math_floorDiv 3 (.istore_n 2) 1 4 := ⟨by decide +kernel, rfl⟩
theorem d_math_floorDiv_4 : cf_D k_math_floorDiv 4 (.iload_n 0) 1 5 := ⟨by decide +kernel, rfl⟩
theorem d_math_floorDiv_5 : cf_D k_math_floorDiv 5 (.iload_n 1) 1 6 := ⟨by decide +kernel, rfl⟩
theorem d_math_floorDiv_6 : cf_D k_math_floorDiv 6 (.ixor) 1 7 := ⟨by decide +kernel, rfl⟩
theorem d_math_floorDiv_7 : cf_D k_math_floorDiv 7 (.ifCond .ge 14) 3 10 := ⟨by decide +kernel, rfl⟩
theorem d_math_floorDiv_10 : cf_D k_math_floorDiv 10 (.iload_n 2) 1 11 := ⟨by decide +kernel, rfl⟩
theorem d_math_floorDiv_11 : cf_D k_math_floorDiv 11 (.iload_n 1) 1 12 := ⟨by decide +kernel, rfl⟩
theorem d_math_floorDiv_12 : cf_D k_math_floorDiv 12 (.imul) 1 13 := ⟨by decide +kernel, rfl⟩
theorem d_math_floorDiv_13 : cf_D k_math_floorDiv 13 (.iload_n 0) 1 14 := ⟨by decide +kernel, rfl⟩
theorem d_math_floorDiv_14 : cf_D k_math_floorDiv 14 (.if_icmp .eq 7) 3 17 := ⟨by decide +kernel, rfl⟩
theorem d_math_floorDiv_17 : cf_D k_math_floorDiv 17 (.iload_n 2) 1 18 := ⟨by decide +kernel, rfl⟩
theorem d_math_floorDiv_18 : cf_D k_math_floorDiv 18 (.iconst 1) 1 19 := ⟨by decide +kernel, rfl⟩
theorem d_math_floorDiv_19 : cf_D k_math_floorDiv 19 (.isub) 1 20 := ⟨by decide +kernel, rfl⟩
theorem d_math_floorDiv_20 : cf_D k_math_floorDiv 20 (.ireturn) 1 21 := ⟨by decide +kernel, rfl⟩
theorem d_math_floorDiv_21 : cf_D k_math_floorDiv 21 (.iload_n 2) 1 22 := ⟨by decide +kernel, rfl⟩
theorem d_math_floorDiv_22 : cf_D k_math_floorDiv 22 (.ireturn) 1 23 := ⟨by decide +kernel, rfl⟩
theorem d_dec_round_0 : cf_D k_dec_round 0 (.iload_n 1) 1 1 := ⟨by decide +kernel, rfl⟩
theorem d_dec_round_1 : cf_D k_dec_round 1 (.ineg) 1 2 := ⟨by decide +kernel, rfl⟩
theorem d_dec_round_2 : cf_D k_dec_round 2 (.aload_n 0) 1 3 := ⟨by decide +kernel, rfl⟩
theorem d_dec_round_3 : cf_D k_dec_round 3 (.getfield 13) 3 6 := ⟨by decide +kernel, rfl⟩
theorem d_dec_round_6 : cf_D k_dec_round 6 (.isub) 1 7 := ⟨by decide +kernel, rfl⟩
theorem d_dec_round_7 : cf_D k_dec_round 7 (.istore_n 2) 1 8 := ⟨by decide +kernel, rfl⟩
theorem d_dec_round_8 : cf_D k_dec_round 8 (.iload_n 2) 1 9 := ⟨by decide +kernel, rfl⟩
theorem d_dec_round_9 : cf_D k_dec_round 9 (.ifCond .gt 4) 3 12 := ⟨by decide +kernel, rfl⟩
theorem d_dec_round_12 : cf_D k_dec_round 12 (.return_) 1 13 := ⟨by decide +kernel, rfl⟩
theorem d_dec_round_13 : cf_D k_dec_round 13 (.iload_n 2) 1 14 := ⟨by decide +kernel, rfl⟩
theorem d_dec_round_14 : cf_D k_dec_round 14 (.getstatic 27) 3 17 := ⟨by decide +kernel, rfl⟩
theorem d_dec_round_17 : cf_D k_dec_round 17 (.arraylength) 1 18 := ⟨by decide +kernel, rfl⟩
theorem d_dec_round_18 : cf_D k_dec_round 18 (.if_icmp .ge 30) 3 21 := ⟨by decide +kernel, rfl⟩
theorem d_dec_round_21 : cf_D k_dec_round 21 (.aload_n 0) 1 22 := ⟨by decide +kernel, rfl⟩
theorem d_dec_round_22 : cf_D k_dec_round 22 (.aload_n 0) 1 23 := ⟨by decide +kernel, rfl⟩
theorem d_dec_round_23 : cf_D k_dec_round 23 (.getfield 7) 3 26 := ⟨by decide +kernel, rfl⟩
theorem d_dec_round_26 : cf_D k_dec_round 26 (.getstatic 27) 3 29 := ⟨by decide +kernel, rfl⟩
theorem d_dec_round_29 : cf_D k_dec_round 29 (.iload_n 2) 1 30 := ⟨by decide +kernel, rfl⟩
theorem d_dec_round_30 : cf_D k_dec_round 30 (.laload) 1 31 := ⟨by decide +kernel, rfl⟩
theorem d_dec_round_31 : cf_D k_dec_round 31 (.ldc2_w 33) 3 34 := ⟨by decide +kernel, rfl⟩
theorem d_dec_round_34 : cf_D k_dec_round 34 (.ldiv) 1 35 := ⟨by decide +kernel, rfl⟩
theorem d_dec_round_35 : cf_D k_dec_round 35 (.ladd) 1 36 := ⟨by decide +kernel, rfl⟩
theorem d_dec_round_36 : cf_D k_dec_round 36 (.getstatic 27) 3 39 := ⟨by decide +kernel, rfl⟩
theorem d_dec_round_39 : cf_D k_dec_round 39 (.iload_n 2) 1 40 := ⟨by decide +kernel, rfl⟩
theorem d_dec_round_40 : cf_D k_dec_round 40 (.laload) 1 41 := ⟨by decide +kernel, rfl⟩
theorem d_dec_round_41 : cf_D k_dec_round 41 (.ldiv) 1 42 := ⟨by decide +kernel, rfl⟩
theorem d_dec_round_42 : cf_D k_dec_round 42 (.putfield 7) 3 45 := ⟨by decide +kernel, rfl⟩
theorem d_dec_round_45 : cf_D k_dec_round 45 (.goto 8) 3 48 := ⟨by decide +kernel, rfl⟩
theorem d_dec_round_48 : cf_D k_dec_round 48 (.aload_n 0) 1 49 := ⟨by decide +kernel, rfl⟩
theorem d_dec_round_49 : cf_D k_dec_round 49 (.lconst 0) 1 50 := ⟨by decide +kernel, rfl⟩
theorem d_dec_round_50 : cf_D k_dec_round 50 (.putfield 7) 3 53 := ⟨by decide +kernel, rfl⟩
theorem d_dec_round_53 : cf_D k_dec_round 53 (.aload_n 0) 1 54 := ⟨by decide +kernel, rfl⟩
theorem d_dec_round_54 : cf_D k_dec_round 54 (.iload_n 1) 1 55 := ⟨by decide +kernel, rfl⟩
theorem d_dec_round_55 : cf_D k_dec_round 55 (.ineg) 1 56 := ⟨by decide +kernel, rfl⟩
theorem d_dec_round_56 : cf_D k_dec_round 56 (.putfield 13) 3 59 := ⟨by decide +kernel, rfl⟩
theorem d_dec_round_59 : cf_D k_dec_round 59 (.return_) 1 60 := ⟨by decide +kernel, rfl⟩
theorem d_math_abs_I_0 : cf_D k_math_abs_I 0 (.iload_n 0) 1 1 := ⟨by decide +kernel, rfl⟩
theorem d_math_abs_I_1 : cf_D k_math_abs_I 1 (.ifCond .ge 8) 3 4 := ⟨by decide +kernel, rfl⟩
theorem d_math_abs_I_4 : cf_D k_math_abs_I 4 (.iload_n 0) 1 5 := ⟨by decide +kernel, rfl⟩
theorem d_math_abs_I_5 : cf_D k_math_abs_I 5 (.ineg) 1 6 := ⟨by decide +kernel, rfl⟩
theorem d_math_abs_I_6 : cf_D k_math_abs_I 6 (.goto 4) 3 9 := ⟨by decide +kernel, rfl⟩
theorem d_math_abs_I_9 : cf_D k_math_abs_I 9 (.iload_n 0) 1 10 := ⟨by decide +kernel, rfl⟩
theorem d_math_abs_I_10 : cf_D k_math_abs_I 10 (.ireturn) 1 11 := ⟨by decide +kernel, rfl⟩
theorem d_num_writePlace_0 : cf_D k_num_writePlace 0 (.iload_n 2) 1 1 := ⟨by decide +kernel, rfl⟩
theorem d_num_writePlace_1 : cf_D k_num_writePlace 1 (.aload_n 1) 1 2 := ⟨by decide +kernel, rfl⟩
theorem d_num_writePlace_2 : cf_D k_num_writePlace 2 (.getfield 112) 3 5 := ⟨by decide +kernel, rfl⟩
theorem d_num_writePlace_5 : cf_D k_num_writePlace 5 (.if_icmp .ge 53) 3 8 := ⟨by decide +kernel, rfl⟩
theorem d_num_writePlace_8 : cf_D k_num_writePlace 8 (.aload_n 0) 1 9 := ⟨by decide +kernel, rfl⟩
theorem d_num_writePlace_9 : cf_D k_num_writePlace 9 (.getfield 100) 3 12 := ⟨by decide +kernel, rfl⟩
theorem d_num_writePlace_12 : cf_D k_num_writePlace 12 (.aload_n 1) 1 13 := ⟨by decide +kernel, rfl⟩
theorem d_num_writePlace_13 : cf_D k_num_writePlace 13 (.getfield 78) 3 16 := ⟨by decide +kernel, rfl⟩
theorem d_num_writePlace_16 : cf_D k_num_writePlace 16 (.if_icmp .ne 7) 3 19 := ⟨by decide +kernel, rfl⟩
theorem d_num_writePlace_19 : cf_D k_num_writePlace 19 (.iconst 1) 1 20 := ⟨by decide +kernel, rfl⟩
theorem d_num_writePlace_20 : cf_D k_num_writePlace 20 (.goto 4) 3 23 := ⟨by decide +kernel, rfl⟩
theorem d_num_writePlace_23 : cf_D k_num_writePlace 23 (.iconst 0) 1 24 := ⟨by decide +kernel, rfl⟩
theorem d_num_writePlace_24 : cf_D k_num_writePlace 24 (.istore 4) 2 26 := ⟨by decide +kernel, rfl⟩
theorem d_num_writePlace_26 : cf_D k_num_writePlace 26 (.aload_n 0) 1 27 := ⟨by decide +kernel, rfl⟩
theorem d_num_writePlace_27 : cf_D k_num_writePlace 27 (.dup) 1 28 := ⟨by decide +kernel, rfl⟩
theorem d_num_writePlace_28 : cf_D k_num_writePlace 28 (.getfield 100) 3 31 := ⟨by decide +kernel, rfl⟩
theorem d_num_writePlace_31 : cf_D k_num_writePlace 31 (.iconst 1) 1 32 := ⟨by decide +kernel, rfl⟩
theorem d_num_writePlace_32 : cf_D k_num_writePlace 32 (.isub) 1 33 := ⟨by decide +kernel, rfl⟩
theorem d_num_writePlace_33 : cf_D k_num_writePlace 33 (.putfield 100) 3 36 := ⟨by decide +kernel, rfl⟩
theorem d_num_writePlace_36 : cf_D k_num_writePlace 36 (.aload_n 0) 1 37 := ⟨by decide +kernel, rfl⟩
theorem d_num_writePlace_37 : cf_D k_num_writePlace 37 (.aload_n 0) 1 38 := ⟨by decide +kernel, rfl⟩
theorem d_num_writePlace_38 : cf_D k_num_writePlace 38 (.getfield 18) 3 41 := ⟨by decide +kernel, rfl⟩
theorem d_num_writePlace_41 : cf_D k_num_writePlace 41 (.iload_n 3) 1 42 := ⟨by decide +kernel, rfl⟩
theorem d_num_writePlace_42 : cf_D k_num_writePlace 42 (.aload_n 0) 1 43 := ⟨by decide +kernel, rfl⟩
theorem d_num_writePlace_43 : cf_D k_num_writePlace 43 (.getfield 100) 3 46 := ⟨by decide +kernel, rfl⟩
theorem d_num_writePlace_46 : cf_D k_num_writePlace 46 (.iload 4) 2 48 := ⟨by decide +kernel, rfl⟩
theorem d_num_writePlace_48 : cf_D k_num_writePlace 48 (.aload_n 1) 1 49 := ⟨by decide +kernel, rfl⟩
theorem d_num_writePlace_49 : cf_D k_num_writePlace 49 (.getfield 115) 3 52 := ⟨by decide +kernel, rfl⟩
theorem d_num_writePlace_52 : cf_D k_num_writePlace 52 (.invokevirtual 118) 3 55 := ⟨by decide +kernel, rfl⟩
theorem d_num_writePlace_55 : cf_D k_num_writePlace 55 (.goto 77) 3 58 := ⟨by decide +kernel, rfl⟩
theorem d_num_writePlace_58 : cf_D k_num_writePlace 58 (.iload_n 2) 1 59 := ⟨by decide +kernel, rfl⟩
theorem d_num_writePlace_59 : cf_D k_num_writePlace 59 (.aload_n 1) 1 60 := ⟨by decide +kernel, rfl⟩
theorem d_num_writePlace_60 : cf_D k_num_writePlace 60 (.getfield 122) 3 63 := ⟨by decide +kernel, rfl⟩
theorem d_num_writePlace_63 : cf_D k_num_writePlace 63 (.if_icmp .ge 25) 3 66 := ⟨by decide +kernel, rfl⟩
theorem d_num_writePlace_66 : cf_D k_num_writePlace 66 (.aload_n 0) 1 67 := ⟨by decide +kernel, rfl⟩
theorem d_num_writePlace_67 : cf_D k_num_writePlace 67 (.dup) 1 68 := ⟨by decide +kernel, rfl⟩
theorem d_num_writePlace_68 : cf_D k_num_writePlace 68 (.getfield 103) 3 71 := ⟨by decide +kernel, rfl⟩
theorem d_num_writePlace_71 : cf_D k_num_writePlace 71 (.iconst 1) 1 72 := ⟨by decide +kernel, rfl⟩
theorem d_num_writePlace_72 : cf_D k_num_writePlace 72 (.iadd) 1 73 := ⟨by decide +kernel, rfl⟩
theorem d_num_writePlace_73 : cf_D k_num_writePlace 73 (.putfield 103) 3 76 := ⟨by decide +kernel, rfl⟩
theorem d_num_writePlace_76 : cf_D k_num_writePlace 76 (.aload_n 0) 1 77 := ⟨by decide +kernel, rfl⟩
theorem d_num_writePlace_77 : cf_D k_num_writePlace 77 (.iload_n 3) 1 78 := ⟨by decide +kernel, rfl⟩
theorem d_num_writePlace_78 : cf_D k_num_writePlace 78 (.aload_n 1) 1 79 := ⟨by decide +kernel, rfl⟩
theorem d_num_writePlace_79 : cf_D k_num_writePlace 79 (.getfield 81) 3 82 := ⟨by decide +kernel, rfl⟩
theorem d_num_writePlace_82 : cf_D k_num_writePlace 82 (.invokevirtual 125) 3 85 := ⟨by decide +kernel, rfl⟩
theorem d_num_writePlace_85 : cf_D k_num_writePlace 85 (.goto 47) 3 88 := ⟨by decide +kernel, rfl⟩
theorem d_num_writePlace_88 : cf_D k_num_writePlace 88 (.aload_n 0) 1 89 := ⟨by decide +kernel, rfl⟩
theorem d_num_writePlace_89 : cf_D k_num_writePlace 89 (.getfield 109) 3 92 := ⟨by decide +kernel, rfl⟩
theorem d_num_writePlace_92 : cf_D k_num_writePlace 92 (.aload_n 1) 1 93 := ⟨by decide +kernel, rfl⟩
theorem d_num_writePlace_93 : cf_D k_num_writePlace 93 (.getfield 106) 3 96 := ⟨by decide +kernel, rfl⟩
theorem d_num_writePlace_96 : cf_D k_num_writePlace 96 (.if_icmp .ne 7) 3 99 := ⟨by decide +kernel, rfl⟩
theorem d_num_writePlace_99 : cf_D k_num_writePlace 99 (.iconst 1) 1 100 := ⟨by decide +kernel, rfl⟩
theorem d_num_writePlace_100 : cf_D k_num_writePlace 100 (.goto 4) 3 103 := ⟨by decide +kernel, rfl⟩
theorem d_num_writePlace_103 : cf_D k_num_writePlace 103 (.iconst 0) 1 104 := ⟨by decide +kernel, rfl⟩
theorem d_num_writePlace_104 : cf_D k_num_writePlace 104 (.istore 4) 2 106 := ⟨by decide +kernel, rfl⟩
theorem d_num_writePlace_106 : cf_D k_num_writePlace 106 (.aload_n 0) 1 107 := ⟨by decide +kernel, rfl⟩
theorem d_num_writePlace_107 : cf_D k_num_writePlace 107 (.dup) 1 108 := ⟨by decide +kernel, rfl⟩
theorem d_num_writePlace_108 : cf_D k_num_writePlace 108 (.getfield 109) 3 111 := ⟨by decide +kernel, rfl⟩
theorem d_num_writePlace_111 : cf_D k_num_writePlace 111 (.iconst 1) 1 112 := ⟨by decide +kernel, rfl⟩
theorem d_num_writePlace_112 : cf_D k_num_writePlace 112 (.isub) 1 113 := ⟨by decide +kernel, rfl⟩
theorem d_num_writePlace_113 : cf_D k_num_writePlace 113 (.putfield 109) 3 116 := ⟨by decide +kernel, rfl⟩
theorem d_num_writePlace_116 : cf_D k_num_writePlace 116 (.aload_n 0) 1 117 := ⟨by decide +kernel, rfl⟩
theorem d_num_writePlace_117 : cf_D k_num_writePlace 117 (.aload_n 0) 1 118 := ⟨by decide +kernel, rfl⟩
theorem d_num_writePlace_118 : cf_D k_num_writePlace 118 (.getfield 22) 3 121 := ⟨by decide +kernel, rfl⟩
theorem d_num_writePlace_121 : cf_D k_num_writePlace 121 (.iload_n 3) 1 122 := ⟨by decide +kernel, rfl⟩
theorem d_num_writePlace_122 : cf_D k_num_writePlace 122 (.aload_n 0) 1 123 := ⟨by decide +kernel, rfl⟩
theorem d_num_writePlace_123 : cf_D k_num_writePlace 123 (.getfield 109) 3 126 := ⟨by decide +kernel, rfl⟩
end
section
/-! decode rows -/
theorem d_num_writePlace_126 : cf_D k_num_writePlace 126 (.iload 4) 2 128 := ⟨by decide +kernel, rfl⟩
theorem d_num_writePlace_128 : cf_D k_num_writePlace 128 (.iconst 0) 1 129 := ⟨by decide +kernel, rfl⟩
theorem d_num_writePlace_129 : cf_D k_num_writePlace 129 (.invokevirtual 118) 3 132 := ⟨by decide +kernel, rfl⟩
theorem d_num_writePlace_132 : cf_D k_num_writePlace 132 (.return_) 1 133 := ⟨by decide +kernel, rfl⟩
theorem d_num_writeIntegerPlace_0 : cf_D k_num_writeIntegerPlace 0 (.aload_n 1) 1 1 := ⟨by decide +kernel, rfl⟩
theorem d_num_writeIntegerPlace_1 : cf_D k_num_writeIntegerPlace 1 (.invokevirtual 129) 3 4 := ⟨by decide +kernel, rfl⟩
theorem d_num_writeIntegerPlace_4 : cf_D k_num_writeIntegerPlace 4 (.istore 6) 2 6 := ⟨by decide +kernel, rfl⟩
theorem d_num_writeIntegerPlace_6 : cf_D k_num_writeIntegerPlace 6 (.iload 4) 2 8 := ⟨by decide +kernel, rfl⟩
theorem d_num_writeIntegerPlace_8 : cf_D k_num_writeIntegerPlace 8 (.ifCond .eq 28) 3 11 := ⟨by decide +kernel, rfl⟩
theorem d_num_writeIntegerPlace_11 : cf_D k_num_writeIntegerPlace 11 (.iload 6) 2 13 := ⟨by decide +kernel, rfl⟩
theorem d_num_writeIntegerPlace_13 : cf_D k_num_writeIntegerPlace 13 (.istore 7) 2 15 := ⟨by decide +kernel, rfl⟩
theorem d_num_writeIntegerPlace_15 : cf_D k_num_writeIntegerPlace 15 (.iload 7) 2 17 := ⟨by decide +kernel, rfl⟩
theorem d_num_writeIntegerPlace_17 : cf_D k_num_writeIntegerPlace 17 (.iload_n 3) 1 18 := ⟨by decide +kernel, rfl⟩
theorem d_num_writeIntegerPlace_18 : cf_D k_num_writeIntegerPlace 18 (.if_icmp .le 18) 3 21 := ⟨by decide +kernel, rfl⟩
theorem d_num_writeIntegerPlace_21 : cf_D k_num_writeIntegerPlace 21 (.aload_n 0) 1 22 := ⟨by decide +kernel, rfl⟩
theorem d_num_writeIntegerPlace_22 : cf_D k_num_writeIntegerPlace 22 (.aload_n 1) 1 23 := ⟨by decide +kernel, rfl⟩
theorem d_num_writeIntegerPlace_23 : cf_D k_num_writeIntegerPlace 23 (.iload 7) 2 25 := ⟨by decide +kernel, rfl⟩
theorem d_num_writeIntegerPlace_25 : cf_D k_num_writeIntegerPlace 25 (.iload 5) 2 27 := ⟨by decide +kernel, rfl⟩
theorem d_num_writeIntegerPlace_27 : cf_D k_num_writeIntegerPlace 27 (.invokevirtual 133) 3 30 := ⟨by decide +kernel, rfl⟩
theorem d_num_writeIntegerPlace_30 : cf_D k_num_writeIntegerPlace 30 (.iinc 7 (-1)) 3 33 := ⟨by decide +kernel, rfl⟩
theorem d_num_writeIntegerPlace_33 : cf_D k_num_writeIntegerPlace 33 (.goto (-18)) 3 36 := ⟨by decide +kernel, rfl⟩
theorem d_num_writeIntegerPlace_36 : cf_D k_num_writeIntegerPlace 36 (.iload_n 3) 1 37 := ⟨by decide +kernel, rfl⟩
theorem d_num_writeIntegerPlace_37 : cf_D k_num_writeIntegerPlace 37 (.iload 6) 2 39 := ⟨by decide +kernel, rfl⟩
theorem d_num_writeIntegerPlace_39 : cf_D k_num_writeIntegerPlace 39 (.if_icmp .le 9) 3 42 := ⟨by decide +kernel, rfl⟩
theorem d_num_writeIntegerPlace_42 : cf_D k_num_writeIntegerPlace 42 (.iload_n 2) 1 43 := ⟨by decide +kernel, rfl⟩
theorem d_num_writeIntegerPlace_43 : cf_D k_num_writeIntegerPlace 43 (.bipush 48) 2 45 := ⟨by decide +kernel, rfl⟩
theorem d_num_writeIntegerPlace_45 : cf_D k_num_writeIntegerPlace 45 (.if_icmp .ne 14) 3 48 := ⟨by decide +kernel, rfl⟩
theorem d_num_writeIntegerPlace_48 : cf_D k_num_writeIntegerPlace 48 (.aload_n 0) 1 49 := ⟨by decide +kernel, rfl⟩
theorem d_num_writeIntegerPlace_49 : cf_D k_num_writeIntegerPlace 49 (.aload_n 1) 1 50 := ⟨by decide +kernel, rfl⟩
theorem d_num_writeIntegerPlace_50 : cf_D k_num_writeIntegerPlace 50 (.iload_n 3) 1 51 := ⟨by decide +kernel, rfl⟩
theorem d_num_writeIntegerPlace_51 : cf_D k_num_writeIntegerPlace 51 (.iload 5) 2 53 := ⟨by decide +kernel, rfl⟩
theorem d_num_writeIntegerPlace_53 : cf_D k_num_writeIntegerPlace 53 (.invokevirtual 133) 3 56 := ⟨by decide +kernel, rfl⟩
theorem d_num_writeIntegerPlace_56 : cf_D k_num_writeIntegerPlace 56 (.goto 18) 3 59 := ⟨by decide +kernel, rfl⟩
theorem d_num_writeIntegerPlace_59 : cf_D k_num_writeIntegerPlace 59 (.iload_n 2) 1 60 := ⟨by decide +kernel, rfl⟩
theorem d_num_writeIntegerPlace_60 : cf_D k_num_writeIntegerPlace 60 (.bipush 63) 2 62 := ⟨by decide +kernel, rfl⟩
theorem d_num_writeIntegerPlace_62 : cf_D k_num_writeIntegerPlace 62 (.if_icmp .ne 12) 3 65 := ⟨by decide +kernel, rfl⟩
theorem d_num_writeIntegerPlace_65 : cf_D k_num_writeIntegerPlace 65 (.aload_n 0) 1 66 := ⟨by decide +kernel, rfl⟩
theorem d_num_writeIntegerPlace_66 : cf_D k_num_writeIntegerPlace 66 (.getfield 9) 3 69 := ⟨by decide +kernel, rfl⟩
theorem d_num_writeIntegerPlace_69 : cf_D k_num_writeIntegerPlace 69 (.bipush 32) 2 71 := ⟨by decide +kernel, rfl⟩
theorem d_num_writeIntegerPlace_71 : cf_D k_num_writeIntegerPlace 71 (.invokevirtual 33) 3 74 := ⟨by decide +kernel, rfl⟩
theorem d_num_writeIntegerPlace_74 : cf_D k_num_writeIntegerPlace 74 (.return_) 1 75 := ⟨by decide +kernel, rfl⟩
theorem d_num_writeDigit_0 : cf_D k_num_writeDigit 0 (.aload_n 0) 1 1 := ⟨by decide +kernel, rfl⟩
theorem d_num_writeDigit_1 : cf_D k_num_writeDigit 1 (.getfield 9) 3 4 := ⟨by decide +kernel, rfl⟩
theorem d_num_writeDigit_4 : cf_D k_num_writeDigit 4 (.bipush 48) 2 6 := ⟨by decide +kernel, rfl⟩
theorem d_num_writeDigit_6 : cf_D k_num_writeDigit 6 (.aload_n 1) 1 7 := ⟨by decide +kernel, rfl⟩
theorem d_num_writeDigit_7 : cf_D k_num_writeDigit 7 (.iload_n 2) 1 8 := ⟨by decide +kernel, rfl⟩
theorem d_num_writeDigit_8 : cf_D k_num_writeDigit 8 (.invokevirtual 137) 3 11 := ⟨by decide +kernel, rfl⟩
theorem d_num_writeDigit_11 : cf_D k_num_writeDigit 11 (.iadd) 1 12 := ⟨by decide +kernel, rfl⟩
theorem d_num_writeDigit_12 : cf_D k_num_writeDigit 12 (.i2c) 1 13 := ⟨by decide +kernel, rfl⟩
theorem d_num_writeDigit_13 : cf_D k_num_writeDigit 13 (.invokevirtual 33) 3 16 := ⟨by decide +kernel, rfl⟩
theorem d_num_writeDigit_16 : cf_D k_num_writeDigit 16 (.iload_n 3) 1 17 := ⟨by decide +kernel, rfl⟩
theorem d_num_writeDigit_17 : cf_D k_num_writeDigit 17 (.ifCond .eq 22) 3 20 := ⟨by decide +kernel, rfl⟩
theorem d_num_writeDigit_20 : cf_D k_num_writeDigit 20 (.iload_n 2) 1 21 := ⟨by decide +kernel, rfl⟩
theorem d_num_writeDigit_21 : cf_D k_num_writeDigit 21 (.ifCond .le 18) 3 24 := ⟨by decide +kernel, rfl⟩
theorem d_num_writeDigit_24 : cf_D k_num_writeDigit 24 (.iload_n 2) 1 25 := ⟨by decide +kernel, rfl⟩
theorem d_num_writeDigit_25 : cf_D k_num_writeDigit 25 (.iconst 3) 1 26 := ⟨by decide +kernel, rfl⟩
theorem d_num_writeDigit_26 : cf_D k_num_writeDigit 26 (.irem) 1 27 := ⟨by decide +kernel, rfl⟩
theorem d_num_writeDigit_27 : cf_D k_num_writeDigit 27 (.ifCond .ne 12) 3 30 := ⟨by decide +kernel, rfl⟩
theorem d_num_writeDigit_30 : cf_D k_num_writeDigit 30 (.aload_n 0) 1 31 := ⟨by decide +kernel, rfl⟩
theorem d_num_writeDigit_31 : cf_D k_num_writeDigit 31 (.getfield 9) 3 34 := ⟨by decide +kernel, rfl⟩
theorem d_num_writeDigit_34 : cf_D k_num_writeDigit 34 (.bipush 44) 2 36 := ⟨by decide +kernel, rfl⟩
theorem d_num_writeDigit_36 : cf_D k_num_writeDigit 36 (.invokevirtual 33) 3 39 := ⟨by decide +kernel, rfl⟩
theorem d_num_writeDigit_39 : cf_D k_num_writeDigit 39 (.return_) 1 40 := ⟨by decide +kernel, rfl⟩
theorem d_dec_digitOf_0 : cf_D k_dec_digitOf 0 (.iload_n 1) 1 1 := ⟨by decide +kernel, rfl⟩
theorem d_dec_digitOf_1 : cf_D k_dec_digitOf 1 (.aload_n 0) 1 2 := ⟨by decide +kernel, rfl⟩
theorem d_dec_digitOf_2 : cf_D k_dec_digitOf 2 (.getfield 13) 3 5 := ⟨by decide +kernel, rfl⟩
theorem d_dec_digitOf_5 : cf_D k_dec_digitOf 5 (.isub) 1 6 := ⟨by decide +kernel, rfl⟩
theorem d_dec_digitOf_6 : cf_D k_dec_digitOf 6 (.istore_n 2) 1 7 := ⟨by decide +kernel, rfl⟩
theorem d_dec_digitOf_7 : cf_D k_dec_digitOf 7 (.iload_n 2) 1 8 := ⟨by decide +kernel, rfl⟩
theorem d_dec_digitOf_8 : cf_D k_dec_digitOf 8 (.ifCond .lt 29) 3 11 := ⟨by decide +kernel, rfl⟩
theorem d_dec_digitOf_11 : cf_D k_dec_digitOf 11 (.iload_n 2) 1 12 := ⟨by decide +kernel, rfl⟩
theorem d_dec_digitOf_12 : cf_D k_dec_digitOf 12 (.getstatic 27) 3 15 := ⟨by decide +kernel, rfl⟩
theorem d_dec_digitOf_15 : cf_D k_dec_digitOf 15 (.arraylength) 1 16 := ⟨by decide +kernel, rfl⟩
theorem d_dec_digitOf_16 : cf_D k_dec_digitOf 16 (.if_icmp .ge 21) 3 19 := ⟨by decide +kernel, rfl⟩
theorem d_dec_digitOf_19 : cf_D k_dec_digitOf 19 (.aload_n 0) 1 20 := ⟨by decide +kernel, rfl⟩
theorem d_dec_digitOf_20 : cf_D k_dec_digitOf 20 (.getfield 7) 3 23 := ⟨by decide +kernel, rfl⟩
theorem d_dec_digitOf_23 : cf_D k_dec_digitOf 23 (.getstatic 27) 3 26 := ⟨by decide +kernel, rfl⟩
theorem d_dec_digitOf_26 : cf_D k_dec_digitOf 26 (.iload_n 2) 1 27 := ⟨by decide +kernel, rfl⟩
theorem d_dec_digitOf_27 : cf_D k_dec_digitOf 27 (.laload) 1 28 := ⟨by decide +kernel, rfl⟩
theorem d_dec_digitOf_28 : cf_D k_dec_digitOf 28 (.ldiv) 1 29 := ⟨by decide +kernel, rfl⟩
theorem d_dec_digitOf_29 : cf_D k_dec_digitOf 29 (.ldc2_w 31) 3 32 := ⟨by decide +kernel, rfl⟩
theorem d_dec_digitOf_32 : cf_D k_dec_digitOf 32 (.lrem) 1 33 := ⟨by decide +kernel, rfl⟩
theorem d_dec_digitOf_33 : cf_D k_dec_digitOf 33 (.l2i) 1 34 := ⟨by decide +kernel, rfl⟩
theorem d_dec_digitOf_34 : cf_D k_dec_digitOf 34 (.goto 4) 3 37 := ⟨by decide +kernel, rfl⟩
theorem d_dec_digitOf_37 : cf_D k_dec_digitOf 37 (.iconst 0) 1 38 := ⟨by decide +kernel, rfl⟩
theorem d_dec_digitOf_38 : cf_D k_dec_digitOf 38 (.ireturn) 1 39 := ⟨by decide +kernel, rfl⟩
theorem d_num_writeFractionPlace_0 : cf_D k_num_writeFractionPlace 0 (.iload_n 1) 1 1 := ⟨by decide +kernel, rfl⟩
theorem d_num_writeFractionPlace_1 : cf_D k_num_writeFractionPlace 1 (.bipush 48) 2 3 := ⟨by decide +kernel, rfl⟩
theorem d_num_writeFractionPlace_3 : cf_D k_num_writeFractionPlace 3 (.if_icmp .eq 15) 3 6 := ⟨by decide +kernel, rfl⟩
theorem d_num_writeFractionPlace_6 : cf_D k_num_writeFractionPlace 6 (.aload_n 0) 1 7 := ⟨by decide +kernel, rfl⟩
theorem d_num_writeFractionPlace_7 : cf_D k_num_writeFractionPlace 7 (.aload_n 0) 1 8 := ⟨by decide +kernel, rfl⟩
theorem d_num_writeFractionPlace_8 : cf_D k_num_writeFractionPlace 8 (.getfield 103) 3 11 := ⟨by decide +kernel, rfl⟩
theorem d_num_writeFractionPlace_11 : cf_D k_num_writeFractionPlace 11 (.iload_n 2) 1 12 := ⟨by decide +kernel, rfl⟩
theorem d_num_writeFractionPlace_12 : cf_D k_num_writeFractionPlace 12 (.invokevirtual 140) 3 15 := ⟨by decide +kernel, rfl⟩
theorem d_num_writeFractionPlace_15 : cf_D k_num_writeFractionPlace 15 (.ifCond .ne 29) 3 18 := ⟨by decide +kernel, rfl⟩
theorem d_num_writeFractionPlace_18 : cf_D k_num_writeFractionPlace 18 (.aload_n 0) 1 19 := ⟨by decide +kernel, rfl⟩
theorem d_num_writeFractionPlace_19 : cf_D k_num_writeFractionPlace 19 (.getfield 9) 3 22 := ⟨by decide +kernel, rfl⟩
theorem d_num_writeFractionPlace_22 : cf_D k_num_writeFractionPlace 22 (.bipush 48) 2 24 := ⟨by decide +kernel, rfl⟩
theorem d_num_writeFractionPlace_24 : cf_D k_num_writeFractionPlace 24 (.aload_n 0) 1 25 := ⟨by decide +kernel, rfl⟩
theorem d_num_writeFractionPlace_25 : cf_D k_num_writeFractionPlace 25 (.getfield 18) 3 28 := ⟨by decide +kernel, rfl⟩
theorem d_num_writeFractionPlace_28 : cf_D k_num_writeFractionPlace 28 (.aload_n 0) 1 29 := ⟨by decide +kernel, rfl⟩
theorem d_num_writeFractionPlace_29 : cf_D k_num_writeFractionPlace 29 (.getfield 103) 3 32 := ⟨by decide +kernel, rfl⟩
theorem d_num_writeFractionPlace_32 : cf_D k_num_writeFractionPlace 32 (.ineg) 1 33 := ⟨by decide +kernel, rfl⟩
theorem d_num_writeFractionPlace_33 : cf_D k_num_writeFractionPlace 33 (.invokevirtual 137) 3 36 := ⟨by decide +kernel, rfl⟩
theorem d_num_writeFractionPlace_36 : cf_D k_num_writeFractionPlace 36 (.iadd) 1 37 := ⟨by decide +kernel, rfl⟩
theorem d_num_writeFractionPlace_37 : cf_D k_num_writeFractionPlace 37 (.i2c) 1 38 := ⟨by decide +kernel, rfl⟩
theorem d_num_writeFractionPlace_38 : cf_D k_num_writeFractionPlace 38 (.invokevirtual 33) 3 41 := ⟨by decide +kernel, rfl⟩
theorem d_num_writeFractionPlace_41 : cf_D k_num_writeFractionPlace 41 (.goto 18) 3 44 := ⟨by decide +kernel, rfl⟩
theorem d_num_writeFractionPlace_44 : cf_D k_num_writeFractionPlace 44 (.iload_n 1) 1 45 := ⟨by decide +kernel, rfl⟩
theorem d_num_writeFractionPlace_45 : cf_D k_num_writeFractionPlace 45 (.bipush 63) 2 47 := ⟨by decide +kernel, rfl⟩
theorem d_num_writeFractionPlace_47 : cf_D k_num_writeFractionPlace 47 (.if_icmp .ne 12) 3 50 := ⟨by decide +kernel, rfl⟩
theorem d_num_writeFractionPlace_50 : cf_D k_num_writeFractionPlace 50 (.aload_n 0) 1 51 := ⟨by decide +kernel, rfl⟩
theorem d_num_writeFractionPlace_51 : cf_D k_num_writeFractionPlace 51 (.getfield 9) 3 54 := ⟨by decide +kernel, rfl⟩
theorem d_num_writeFractionPlace_54 : cf_D k_num_writeFractionPlace 54 (.bipush 32) 2 56 := ⟨by decide +kernel, rfl⟩
theorem d_num_writeFractionPlace_56 : cf_D k_num_writeFractionPlace 56 (.invokevirtual 33) 3 59 := ⟨by decide +kernel, rfl⟩
theorem d_num_writeFractionPlace_59 : cf_D k_num_writeFractionPlace 59 (.return_) 1 60 := ⟨by decide +kernel, rfl⟩
theorem d_num_onlyZerosFrom_0 : cf_D k_num_onlyZerosFrom 0 (.iload_n 1) 1 1 := ⟨by decide +kernel, rfl⟩
theorem d_num_onlyZerosFrom_1 : cf_D k_num_onlyZerosFrom 1 (.istore_n 3) 1 2 := ⟨by decide +kernel, rfl⟩
theorem d_num_onlyZerosFrom_2 : cf_D k_num_onlyZerosFrom 2 (.iload_n 3) 1 3 := ⟨by decide +kernel, rfl⟩
theorem d_num_onlyZerosFrom_3 : cf_D k_num_onlyZerosFrom 3 (.iload_n 2) 1 4 := ⟨by decide +kernel, rfl⟩
theorem d_num_onlyZerosFrom_4 : cf_D k_num_onlyZerosFrom 4 (.if_icmp .gt 23) 3 7 := ⟨by decide +kernel, rfl⟩
theorem d_num_onlyZerosFrom_7 : cf_D k_num_onlyZerosFrom 7 (.aload_n 0) 1 8 := ⟨by decide +kernel, rfl⟩
theorem d_num_onlyZerosFrom_8 : cf_D k_num_onlyZerosFrom 8 (.getfield 18) 3 11 := ⟨by decide +kernel, rfl⟩
theorem d_num_onlyZerosFrom_11 : cf_D k_num_onlyZerosFrom 11 (.iload_n 3) 1 12 := ⟨by decide +kernel, rfl⟩
theorem d_num_onlyZerosFrom_12 : cf_D k_num_onlyZerosFrom 12 (.ineg) 1 13 := ⟨by decide +kernel, rfl⟩
theorem d_num_onlyZerosFrom_13 : cf_D k_num_onlyZerosFrom 13 (.invokevirtual 137) 3 16 := ⟨by decide +kernel, rfl⟩
theorem d_num_onlyZerosFrom_16 : cf_D k_num_onlyZerosFrom 16 (.ifCond .eq 5) 3 19 := ⟨by decide +kernel, rfl⟩
theorem d_num_onlyZerosFrom_19 : cf_D k_num_onlyZerosFrom 19 (.iconst 0) 1 20 := ⟨by decide +kernel, rfl⟩
theorem d_num_onlyZerosFrom_20 : cf_D k_num_onlyZerosFrom 20 (.ireturn) 1 21 := ⟨by decide +kernel, rfl⟩
theorem d_num_onlyZerosFrom_21 : cf_D k_num_onlyZerosFrom 21 (.iinc 3 1) 3 24 := ⟨by decide +kernel, rfl⟩
theorem d_num_onlyZerosFrom_24 : cf_D k_num_onlyZerosFrom 24 (.goto (-22)) 3 27 := ⟨by decide +kernel, rfl⟩
theorem d_num_onlyZerosFrom_27 : cf_D k_num_onlyZerosFrom 27 (.iconst 1) 1 28 := ⟨by decide +kernel, rfl⟩
theorem d_num_onlyZerosFrom_28 : cf_D k_num_onlyZerosFrom 28 (.ireturn) 1 29 := ⟨by decide +kernel, rfl⟩
theorem d_num_writeExponentMark_0 : cf_D k_num_writeExponentMark 0 (.aload_n 0) 1 1 := ⟨by decide +kernel, rfl⟩
theorem d_num_writeExponentMark_1 : cf_D k_num_writeExponentMark 1 (.getfield 9) 3 4 := ⟨by decide +kernel, rfl⟩
theorem d_num_writeExponentMark_4 : cf_D k_num_writeExponentMark 4 (.bipush 69) 2 6 := ⟨by decide +kernel, rfl⟩
theorem d_num_writeExponentMark_6 : cf_D k_num_writeExponentMark 6 (.invokevirtual 33) 3 9 := ⟨by decide +kernel, rfl⟩
theorem d_num_writeExponentMark_9 : cf_D k_num_writeExponentMark 9 (.aload_n 0) 1 10 := ⟨by decide +kernel, rfl⟩
theorem d_num_writeExponentMark_10 : cf_D k_num_writeExponentMark 10 (.getfield 91) 3 13 := ⟨by decide +kernel, rfl⟩
theorem d_num_writeExponentMark_13 : cf_D k_num_writeExponentMark 13 (.ifCond .eq 15) 3 16 := ⟨by decide +kernel, rfl⟩
theorem d_num_writeExponentMark_16 : cf_D k_num_writeExponentMark 16 (.aload_n 0) 1 17 := ⟨by decide +kernel, rfl⟩
theorem d_num_writeExponentMark_17 : cf_D k_num_writeExponentMark 17 (.getfield 9) 3 20 := ⟨by decide +kernel, rfl⟩
theorem d_num_writeExponentMark_20 : cf_D k_num_writeExponentMark 20 (.bipush 45) 2 22 := ⟨by decide +kernel, rfl⟩
theorem d_num_writeExponentMark_22 : cf_D k_num_writeExponentMark 22 (.invokevirtual 33) 3 25 := ⟨by decide +kernel, rfl⟩
theorem d_num_writeExponentMark_25 : cf_D k_num_writeExponentMark 25 (.goto 18) 3 28 := ⟨by decide +kernel, rfl⟩
theorem d_num_writeExponentMark_28 : cf_D k_num_writeExponentMark 28 (.iload_n 1) 1 29 := ⟨by decide +kernel, rfl⟩
theorem d_num_writeExponentMark_29 : cf_D k_num_writeExponentMark 29 (.bipush 43) 2 31 := ⟨by decide +kernel, rfl⟩
theorem d_num_writeExponentMark_31 : cf_D k_num_writeExponentMark 31 (.if_icmp .ne 12) 3 34 := ⟨by decide +kernel, rfl⟩
theorem d_num_writeExponentMark_34 : cf_D k_num_writeExponentMark 34 (.aload_n 0) 1 35 := ⟨by decide +kernel, rfl⟩
theorem d_num_writeExponentMark_35 : cf_D k_num_writeExponentMark 35 (.getfield 9) 3 38 := ⟨by decide +kernel, rfl⟩
theorem d_num_writeExponentMark_38 : cf_D k_num_writeExponentMark 38 (.bipush 43) 2 40 := ⟨by decide +kernel, rfl⟩
theorem d_num_writeExponentMark_40 : cf_D k_num_writeExponentMark 40 (.invokevirtual 33) 3 43 := ⟨by decide +kernel, rfl⟩
theorem d_num_writeExponentMark_43 : cf_D k_num_writeExponentMark 43 (.return_) 1 44 := ⟨by decide +kernel, rfl⟩
theorem d_fmt_writePlain_0 : cf_D k_fmt_writePlain 0 (.iload_n 2) 1 1 := ⟨by decide +kernel, rfl⟩
theorem d_fmt_writePlain_1 : cf_D k_fmt_writePlain 1 (.ifCond .eq 12) 3 4 := ⟨by decide +kernel, rfl⟩
theorem d_fmt_writePlain_4 : cf_D k_fmt_writePlain 4 (.aload_n 0) 1 5 := ⟨by decide +kernel, rfl⟩
theorem d_fmt_writePlain_5 : cf_D k_fmt_writePlain 5 (.getfield 57) 3 8 := ⟨by decide +kernel, rfl⟩
theorem d_fmt_writePlain_8 : cf_D k_fmt_writePlain 8 (.bipush 45) 2 10 := ⟨by decide +kernel, rfl⟩
theorem d_fmt_writePlain_10 : cf_D k_fmt_writePlain 10 (.invokevirtual 179) 3 13 := ⟨by decide +kernel, rfl⟩
theorem d_fmt_writePlain_13 : cf_D k_fmt_writePlain 13 (.aload_n 1) 1 14 := ⟨by decide +kernel, rfl⟩
theorem d_fmt_writePlain_14 : cf_D k_fmt_writePlain 14 (.getfield 183) 3 17 := ⟨by decide +kernel, rfl⟩
theorem d_fmt_writePlain_17 : cf_D k_fmt_writePlain 17 (.istore_n 3) 1 18 := ⟨by decide +kernel, rfl⟩
theorem d_fmt_writePlain_18 : cf_D k_fmt_writePlain 18 (.iload_n 3) 1 19 := ⟨by decide +kernel, rfl⟩
theorem d_fmt_writePlain_19 : cf_D k_fmt_writePlain 19 (.aload_n 1) 1 20 := ⟨by decide +kernel, rfl⟩
theorem d_fmt_writePlain_20 : cf_D k_fmt_writePlain 20 (.getfield 186) 3 23 := ⟨by decide +kernel, rfl⟩
theorem d_fmt_writePlain_23 : cf_D k_fmt_writePlain 23 (.if_icmp .ge 37) 3 26 := ⟨by decide +kernel, rfl⟩
theorem d_fmt_writePlain_26 : cf_D k_fmt_writePlain 26 (.aload_n 0) 1 27 := ⟨by decide +kernel, rfl⟩
theorem d_fmt_writePlain_27 : cf_D k_fmt_writePlain 27 (.getfield 20) 3 30 := ⟨by decide +kernel, rfl⟩
theorem d_fmt_writePlain_30 : cf_D k_fmt_writePlain 30 (.iload_n 3) 1 31 := ⟨by decide +kernel, rfl⟩
theorem d_fmt_writePlain_31 : cf_D k_fmt_writePlain 31 (.invokevirtual 189) 3 34 := ⟨by decide +kernel, rfl⟩
theorem d_fmt_writePlain_34 : cf_D k_fmt_writePlain 34 (.iconst 1) 1 35 := ⟨by decide +kernel, rfl⟩
theorem d_fmt_writePlain_35 : cf_D k_fmt_writePlain 35 (.if_icmp .ne 19) 3 38 := ⟨by decide +kernel, rfl⟩
theorem d_fmt_writePlain_38 : cf_D k_fmt_writePlain 38 (.aload_n 0) 1 39 := ⟨by decide +kernel, rfl⟩
theorem d_fmt_writePlain_39 : cf_D k_fmt_writePlain 39 (.getfield 57) 3 42 := ⟨by decide +kernel, rfl⟩
theorem d_fmt_writePlain_42 : cf_D k_fmt_writePlain 42 (.aload_n 0) 1 43 := ⟨by decide +kernel, rfl⟩
theorem d_fmt_writePlain_43 : cf_D k_fmt_writePlain 43 (.getfield 20) 3 46 := ⟨by decide +kernel, rfl⟩
theorem d_fmt_writePlain_46 : cf_D k_fmt_writePlain 46 (.iload_n 3) 1 47 := ⟨by decide +kernel, rfl⟩
theorem d_fmt_writePlain_47 : cf_D k_fmt_writePlain 47 (.invokevirtual 192) 3 50 := ⟨by decide +kernel, rfl⟩
theorem d_fmt_writePlain_50 : cf_D k_fmt_writePlain 50 (.i2c) 1 51 := ⟨by decide +kernel, rfl⟩
theorem d_fmt_writePlain_51 : cf_D k_fmt_writePlain 51 (.invokevirtual 179) 3 54 := ⟨by decide +kernel, rfl⟩
theorem d_fmt_writePlain_54 : cf_D k_fmt_writePlain 54 (.iinc 3 1) 3 57 := ⟨by decide +kernel, rfl⟩
theorem d_fmt_writePlain_57 : cf_D k_fmt_writePlain 57 (.goto (-39)) 3 60 := ⟨by decide +kernel, rfl⟩
theorem d_fmt_writePlain_60 : cf_D k_fmt_writePlain 60 (.return_) 1 61 := ⟨by decide +kernel, rfl⟩
theorem d_fmt_charAt_0 : cf_D k_fmt_charAt 0 (.aload_n 0) 1 1 := ⟨by decide +kernel, rfl⟩
theorem d_fmt_charAt_1 : cf_D k_fmt_charAt 1 (.getfield 57) 3 4 := ⟨by decide +kernel, rfl⟩
theorem d_fmt_charAt_4 : cf_D k_fmt_charAt 4 (.iload_n 1) 1 5 := ⟨by decide +kernel, rfl⟩
theorem d_fmt_charAt_5 : cf_D k_fmt_charAt 5 (.invokevirtual 121) 3 8 := ⟨by decide +kernel, rfl⟩
theorem d_fmt_charAt_8 : cf_D k_fmt_charAt 8 (.ireturn) 1 9 := ⟨by decide +kernel, rfl⟩
theorem d_txt_at_0 : cf_D k_txt_at 0 (.iload_n 1) 1 1 := ⟨by decide +kernel, rfl⟩
theorem d_txt_at_1 : cf_D k_txt_at 1 (.ifCond .lt 20) 3 4 := ⟨by decide +kernel, rfl⟩
theorem d_txt_at_4 : cf_D k_txt_at 4 (.iload_n 1) 1 5 := ⟨by decide +kernel, rfl⟩
theorem d_txt_at_5 : cf_D k_txt_at 5 (.aload_n 0) 1 6 := ⟨by decide +kernel, rfl⟩
theorem d_txt_at_6 : cf_D k_txt_at 6 (.getfield 15) 3 9 := ⟨by decide +kernel, rfl⟩
theorem d_txt_at_9 : cf_D k_txt_at 9 (.if_icmp .ge 12) 3 12 := ⟨by decide +kernel, rfl⟩
theorem d_txt_at_12 : cf_D k_txt_at 12 (.aload_n 0) 1 13 := ⟨by decide +kernel, rfl⟩
theorem d_txt_at_13 : cf_D k_txt_at 13 (.getfield 9) 3 16 := ⟨by decide +kernel, rfl⟩
theorem d_txt_at_16 : cf_D k_txt_at 16 (.iload_n 1) 1 17 := ⟨by decide +kernel, rfl⟩
theorem d_txt_at_17 : cf_D k_txt_at 17 (.caload) 1 18 := ⟨by decide +kernel, rfl⟩
theorem d_txt_at_18 : cf_D k_txt_at 18 (.goto 4) 3 21 := ⟨by decide +kernel, rfl⟩
theorem d_txt_at_21 : cf_D k_txt_at 21 (.iconst 0) 1 22 := ⟨by decide +kernel, rfl⟩
theorem d_txt_at_22 : cf_D k_txt_at 22 (.ireturn) 1 23 := ⟨by decide +kernel, rfl⟩
theorem d_fmt_section_0 : cf_D k_fmt_section 0 (.aload_n 0) 1 1 := ⟨by decide +kernel, rfl⟩
theorem d_fmt_section_1 : cf_D k_fmt_section 1 (.getfield 61) 3 4 := ⟨by decide +kernel, rfl⟩
theorem d_fmt_section_4 : cf_D k_fmt_section 4 (.ireturn) 1 5 := ⟨by decide +kernel, rfl⟩
theorem d_fmt_date_0 : cf_D k_fmt_date 0 (.iload_n 2) 1 1 := ⟨by decide +kernel, rfl⟩
theorem d_fmt_date_1 : cf_D k_fmt_date 1 (.ifCond .lt 19) 3 4 := ⟨by decide +kernel, rfl⟩
theorem d_fmt_date_4 : cf_D k_fmt_date 4 (.iload_n 2) 1 5 := ⟨by decide +kernel, rfl⟩
theorem d_fmt_date_5 : cf_D k_fmt_date 5 (.iconst 3) 1 6 := ⟨by decide +kernel, rfl⟩
theorem d_fmt_date_6 : cf_D k_fmt_date 6 (.if_icmp .gt 14) 3 9 := ⟨by decide +kernel, rfl⟩
theorem d_fmt_date_9 : cf_D k_fmt_date 9 (.aload_n 0) 1 10 := ⟨by decide +kernel, rfl⟩
theorem d_fmt_date_10 : cf_D k_fmt_date 10 (.getfield 50) 3 13 := ⟨by decide +kernel, rfl⟩
theorem d_fmt_date_13 : cf_D k_fmt_date 13 (.iload_n 1) 1 14 := ⟨by decide +kernel, rfl⟩
theorem d_fmt_date_14 : cf_D k_fmt_date 14 (.invokevirtual 125) 3 17 := ⟨by decide +kernel, rfl⟩
theorem d_fmt_date_17 : cf_D k_fmt_date 17 (.ifCond .ne 6) 3 20 := ⟨by decide +kernel, rfl⟩
theorem d_fmt_date_20 : cf_D k_fmt_date 20 (.bipush (-3)) 2 22 := ⟨by decide +kernel, rfl⟩
theorem d_fmt_date_22 : cf_D k_fmt_date 22 (.ireturn) 1 23 := ⟨by decide +kernel, rfl⟩
theorem d_fmt_date_23 : cf_D k_fmt_date 23 (.iload_n 2) 1 24 := ⟨by decide +kernel, rfl⟩
theorem d_fmt_date_24 : cf_D k_fmt_date 24 (.ifCond .ne 11) 3 27 := ⟨by decide +kernel, rfl⟩
theorem d_fmt_date_27 : cf_D k_fmt_date 27 (.aload_n 0) 1 28 := ⟨by decide +kernel, rfl⟩
theorem d_fmt_date_28 : cf_D k_fmt_date 28 (.getfield 50) 3 31 := ⟨by decide +kernel, rfl⟩
theorem d_fmt_date_31 : cf_D k_fmt_date 31 (.getfield 129) 3 34 := ⟨by decide +kernel, rfl⟩
theorem d_fmt_date_34 : cf_D k_fmt_date 34 (.ireturn) 1 35 := ⟨by decide +kernel, rfl⟩
theorem d_fmt_date_35 : cf_D k_fmt_date 35 (.iload_n 2) 1 36 := ⟨by decide +kernel, rfl⟩
theorem d_fmt_date_36 : cf_D k_fmt_date 36 (.iconst 1) 1 37 := ⟨by decide +kernel, rfl⟩
theorem d_fmt_date_37 : cf_D k_fmt_date 37 (.if_icmp .ne 11) 3 40 := ⟨by decide +kernel, rfl⟩
theorem d_fmt_date_40 : cf_D k_fmt_date 40 (.aload_n 0) 1 41 := ⟨by decide +kernel, rfl⟩
theorem d_fmt_date_41 : cf_D k_fmt_date 41 (.getfield 50) 3 44 := ⟨by decide +kernel, rfl⟩
theorem d_fmt_date_44 : cf_D k_fmt_date 44 (.getfield 132) 3 47 := ⟨by decide +kernel, rfl⟩
theorem d_fmt_date_47 : cf_D k_fmt_date 47 (.ireturn) 1 48 := ⟨by decide +kernel, rfl⟩
theorem d_fmt_date_48 : cf_D k_fmt_date 48 (.iload_n 2) 1 49 := ⟨by decide +kernel, rfl⟩
theorem d_fmt_date_49 : cf_D k_fmt_date 49 (.iconst 2) 1 50 := ⟨by decide +kernel, rfl⟩
theorem d_fmt_date_50 : cf_D k_fmt_date 50 (.if_icmp .ne 13) 3 53 := ⟨by decide +kernel, rfl⟩
theorem d_fmt_date_53 : cf_D k_fmt_date 53 (.aload_n 0) 1 54 := ⟨by decide +kernel, rfl⟩
theorem d_fmt_date_54 : cf_D k_fmt_date 54 (.getfield 50) 3 57 := ⟨by decide +kernel, rfl⟩
theorem d_fmt_date_57 : cf_D k_fmt_date 57 (.getfield 135) 3 60 := ⟨by decide +kernel, rfl⟩
theorem d_fmt_date_60 : cf_D k_fmt_date 60 (.goto 10) 3 63 := ⟨by decide +kernel, rfl⟩
theorem d_fmt_date_63 : cf_D k_fmt_date 63 (.aload_n 0) 1 64 := ⟨by decide +kernel, rfl⟩
theorem d_fmt_date_64 : cf_D k_fmt_date 64 (.getfield 50) 3 67 := ⟨by decide +kernel, rfl⟩
theorem d_fmt_date_67 : cf_D k_fmt_date 67 (.getfield 138) 3 70 := ⟨by decide +kernel, rfl⟩
theorem d_fmt_date_70 : cf_D k_fmt_date 70 (.ireturn) 1 71 := ⟨by decide +kernel, rfl⟩
theorem d_fmt_serial_0 : cf_D k_fmt_serial 0 (.aload_n 0) 1 1 := ⟨by decide +kernel, rfl⟩
theorem d_fmt_serial_1 : cf_D k_fmt_serial 1 (.getfield 50) 3 4 := ⟨by decide +kernel, rfl⟩
theorem d_fmt_serial_4 : cf_D k_fmt_serial 4 (.iload_n 1) 1 5 := ⟨by decide +kernel, rfl⟩
theorem d_fmt_serial_5 : cf_D k_fmt_serial 5 (.iload_n 2) 1 6 := ⟨by decide +kernel, rfl⟩
theorem d_fmt_serial_6 : cf_D k_fmt_serial 6 (.iload_n 3) 1 7 := ⟨by decide +kernel, rfl⟩
theorem d_fmt_serial_7 : cf_D k_fmt_serial 7 (.invokevirtual 141) 3 10 := ⟨by decide +kernel, rfl⟩
theorem d_fmt_serial_10 : cf_D k_fmt_serial 10 (.ireturn) 1 11 := ⟨by decide +kernel, rfl⟩
theorem d_cal_serialOf_0 : cf_D k_cal_serialOf 0 (.aload_n 0) 1 1 := ⟨by decide +kernel, rfl⟩
theorem d_cal_serialOf_1 : cf_D k_cal_serialOf 1 (.getfield 9) 3 4 := ⟨by decide +kernel, rfl⟩
theorem d_cal_serialOf_4 : cf_D k_cal_serialOf 4 (.ifCond .eq 9) 3 7 := ⟨by decide +kernel, rfl⟩
theorem d_cal_serialOf_7 : cf_D k_cal_serialOf 7 (.sipush 1904) 3 10 := ⟨by decide +kernel, rfl⟩
theorem d_cal_serialOf_10 : cf_D k_cal_serialOf 10 (.goto 6) 3 13 := ⟨by decide +kernel, rfl⟩
theorem d_cal_serialOf_13 : cf_D k_cal_serialOf 13 (.sipush 1900) 3 16 := ⟨by decide +kernel, rfl⟩
theorem d_cal_serialOf_16 : cf_D k_cal_serialOf 16 (.istore 4) 2 18 := ⟨by decide +kernel, rfl⟩
theorem d_cal_serialOf_18 : cf_D k_cal_serialOf 18 (.iload_n 1) 1 19 := ⟨by decide +kernel, rfl⟩
theorem d_cal_serialOf_19 : cf_D k_cal_serialOf 19 (.iload 4) 2 21 := ⟨by decide +kernel, rfl⟩
theorem d_cal_serialOf_21 : cf_D k_cal_serialOf 21 (.if_icmp .lt 21) 3 24 := ⟨by decide +kernel, rfl⟩
theorem d_cal_serialOf_24 : cf_D k_cal_serialOf 24 (.iload_n 1) 1 25 := ⟨by decide +kernel, rfl⟩
theorem d_cal_serialOf_25 : cf_D k_cal_serialOf 25 (.sipush 9999) 3 28 := ⟨by decide +kernel, rfl⟩
theorem d_cal_serialOf_28 : cf_D k_cal_serialOf 28 (.if_icmp .gt 14) 3 31 := ⟨by decide +kernel, rfl⟩
theorem d_cal_serialOf_31 : cf_D k_cal_serialOf 31 (.iload_n 2) 1 32 := ⟨by decide +kernel, rfl⟩
theorem d_cal_serialOf_32 : cf_D k_cal_serialOf 32 (.iconst 1) 1 33 := ⟨by decide +kernel, rfl⟩
theorem d_cal_serialOf_33 : cf_D k_cal_serialOf 33 (.if_icmp .lt 9) 3 36 := ⟨by decide +kernel, rfl⟩
theorem d_cal_serialOf_36 : cf_D k_cal_serialOf 36 (.iload_n 2) 1 37 := ⟨by decide +kernel, rfl⟩
theorem d_cal_serialOf_37 : cf_D k_cal_serialOf 37 (.bipush 12) 2 39 := ⟨by decide +kernel, rfl⟩
theorem d_cal_serialOf_39 : cf_D k_cal_serialOf 39 (.if_icmp .le 6) 3 42 := ⟨by decide +kernel, rfl⟩
theorem d_cal_serialOf_42 : cf_D k_cal_serialOf 42 (.bipush (-3)) 2 44 := ⟨by decide +kernel, rfl⟩
theorem d_cal_serialOf_44 : cf_D k_cal_serialOf 44 (.ireturn) 1 45 := ⟨by decide +kernel, rfl⟩
theorem d_cal_serialOf_45 : cf_D k_cal_serialOf 45 (.iload_n 1) 1 46 := ⟨by decide +kernel, rfl⟩
theorem d_cal_serialOf_46 : cf_D k_cal_serialOf 46 (.sipush 1900) 3 49 := ⟨by decide +kernel, rfl⟩
theorem d_cal_serialOf_49 : cf_D k_cal_serialOf 49 (.if_icmp .ne 17) 3 52 := ⟨by decide +kernel, rfl⟩
theorem d_cal_serialOf_52 : cf_D k_cal_serialOf 52 (.iload_n 2) 1 53 := ⟨by decide +kernel, rfl⟩
theorem d_cal_serialOf_53 : cf_D k_cal_serialOf 53 (.iconst 2) 1 54 := ⟨by decide +kernel, rfl⟩
theorem d_cal_serialOf_54 : cf_D k_cal_serialOf 54 (.if_icmp .ne 12) 3 57 := ⟨by decide +kernel, rfl⟩
theorem d_cal_serialOf_57 : cf_D k_cal_serialOf 57 (.iload_n 3) 1 58 := ⟨by decide +kernel, rfl⟩
theorem d_cal_serialOf_58 : cf_D k_cal_serialOf 58 (.bipush 29) 2 60 := ⟨by decide +kernel, rfl⟩
theorem d_cal_serialOf_60 : cf_D k_cal_serialOf 60 (.if_icmp .ne 6) 3 63 := ⟨by decide +kernel, rfl⟩
theorem d_cal_serialOf_63 : cf_D k_cal_serialOf 63 (.bipush 60) 2 65 := ⟨by decide +kernel, rfl⟩
theorem d_cal_serialOf_65 : cf_D k_cal_serialOf 65 (.ireturn) 1 66 := ⟨by decide +kernel, rfl⟩
theorem d_cal_serialOf_66 : cf_D k_cal_serialOf 66 (.iload_n 3) 1 67 := ⟨by decide +kernel, rfl⟩
theorem d_cal_serialOf_67 : cf_D k_cal_serialOf 67 (.iconst 1) 1 68 := ⟨by decide +kernel, rfl⟩
theorem d_cal_serialOf_68 : cf_D k_cal_serialOf 68 (.if_icmp .lt 12) 3 71 := ⟨by decide +kernel, rfl⟩
theorem d_cal_serialOf_71 : cf_D k_cal_serialOf 71 (.iload_n 3) 1 72 := ⟨by decide +kernel, rfl⟩
theorem d_cal_serialOf_72 : cf_D k_cal_serialOf 72 (.iload_n 1) 1 73 := ⟨by decide +kernel, rfl⟩
theorem d_cal_serialOf_73 : cf_D k_cal_serialOf 73 (.iload_n 2) 1 74 := ⟨by decide +kernel, rfl⟩
theorem d_cal_serialOf_74 : cf_D k_cal_serialOf 74 (.invokestatic 42) 3 77 := ⟨by decide +kernel, rfl⟩
theorem d_cal_serialOf_77 : cf_D k_cal_serialOf 77 (.if_icmp .le 6) 3 80 := ⟨by decide +kernel, rfl⟩
theorem d_cal_serialOf_80 : cf_D k_cal_serialOf 80 (.bipush (-3)) 2 82 := ⟨by decide +kernel, rfl⟩
theorem d_cal_serialOf_82 : cf_D k_cal_serialOf 82 (.ireturn) 1 83 := ⟨by decide +kernel, rfl⟩
theorem d_cal_serialOf_83 : cf_D k_cal_serialOf 83 (.iload_n 1) 1 84 := ⟨by decide +kernel, rfl⟩
theorem d_cal_serialOf_84 : cf_D k_cal_serialOf 84 (.invokestatic 25) 3 87 := ⟨by decide +kernel, rfl⟩
theorem d_cal_serialOf_87 : cf_D k_cal_serialOf 87 (.iload 4) 2 89 := ⟨by decide +kernel, rfl⟩
theorem d_cal_serialOf_89 : cf_D k_cal_serialOf 89 (.invokestatic 25) 3 92 := ⟨by decide +kernel, rfl⟩
theorem d_cal_serialOf_92 : cf_D k_cal_serialOf 92 (.isub) 1 93 := ⟨by decide +kernel, rfl⟩
theorem d_cal_serialOf_93 : cf_D k_cal_serialOf 93 (.iload_n 3) 1 94 := ⟨by decide +kernel, rfl⟩
theorem d_cal_serialOf_94 : cf_D k_cal_serialOf 94 (.iadd) 1 95 := ⟨by decide +kernel, rfl⟩
theorem d_cal_serialOf_95 : cf_D k_cal_serialOf 95 (.iconst 1) 1 96 := ⟨by decide +kernel, rfl⟩
theorem d_cal_serialOf_96 : cf_D k_cal_serialOf 96 (.isub) 1 97 := ⟨by decide +kernel, rfl⟩
theorem d_cal_serialOf_97 : cf_D k_cal_serialOf 97 (.istore 5) 2 99 := ⟨by decide +kernel, rfl⟩
theorem d_cal_serialOf_99 : cf_D k_cal_serialOf 99 (.iconst 1) 1 100 := ⟨by decide +kernel, rfl⟩
theorem d_cal_serialOf_100 : cf_D k_cal_serialOf 100 (.istore 6) 2 102 := ⟨by decide +kernel, rfl⟩
theorem d_cal_serialOf_102 : cf_D k_cal_serialOf 102 (.iload 6) 2 104 := ⟨by decide +kernel, rfl⟩
theorem d_cal_serialOf_104 : cf_D k_cal_serialOf 104 (.iload_n 2) 1 105 := ⟨by decide +kernel, rfl⟩
theorem d_cal_serialOf_105 : cf_D k_cal_serialOf 105 (.if_icmp .ge 20) 3 108 := ⟨by decide +kernel, rfl⟩
theorem d_cal_serialOf_108 : cf_D k_cal_serialOf 108 (.iload 5) 2 110 := ⟨by decide +kernel, rfl⟩
theorem d_cal_serialOf_110 : cf_D k_cal_serialOf 110 (.iload_n 1) 1 111 := ⟨by decide +kernel, rfl⟩
theorem d_cal_serialOf_111 : cf_D k_cal_serialOf 111 (.iload 6) 2 113 := ⟨by decide +kernel, rfl⟩
theorem d_cal_serialOf_113 : cf_D k_cal_serialOf 113 (.invokestatic 42) 3 116 := ⟨by decide +kernel, rfl⟩
theorem d_cal_serialOf_116 : cf_D k_cal_serialOf 116 (.iadd) 1 117 := ⟨by decide +kernel, rfl⟩
theorem d_cal_serialOf_117 : cf_D k_cal_serialOf 117 (.istore 5) 2 119 := ⟨by decide +kernel, rfl⟩
theorem d_cal_serialOf_119 : cf_D k_cal_serialOf 119 (.iinc 6 1) 3 122 := ⟨by decide +kernel, rfl⟩
theorem d_cal_serialOf_122 : cf_D k_cal_serialOf 122 (.goto (-20)) 3 125 := ⟨by decide +kernel, rfl⟩
theorem d_cal_serialOf_125 : cf_D k_cal_serialOf 125 (.aload_n 0) 1 126 := ⟨by decide +kernel, rfl⟩
theorem d_cal_serialOf_126 : cf_D k_cal_serialOf 126 (.getfield 9) 3 129 := ⟨by decide +kernel, rfl⟩
theorem d_cal_serialOf_129 : cf_D k_cal_serialOf 129 (.ifCond .eq 6) 3 132 := ⟨by decide +kernel, rfl⟩
theorem d_cal_serialOf_132 : cf_D k_cal_serialOf 132 (.iload 5) 2 134 := ⟨by decide +kernel, rfl⟩
theorem d_cal_serialOf_134 : cf_D k_cal_serialOf 134 (.ireturn) 1 135 := ⟨by decide +kernel, rfl⟩
theorem d_cal_serialOf_135 : cf_D k_cal_serialOf 135 (.iload 5) 2 137 := ⟨by decide +kernel, rfl⟩
theorem d_cal_serialOf_137 : cf_D k_cal_serialOf 137 (.iconst 1) 1 138 := ⟨by decide +kernel, rfl⟩
theorem d_cal_serialOf_138 : cf_D k_cal_serialOf 138 (.iadd) 1 139 := ⟨by decide +kernel, rfl⟩
theorem d_cal_serialOf_139 : cf_D k_cal_serialOf 139 (.bipush 60) 2 141 := ⟨by decide +kernel, rfl⟩
theorem d_cal_serialOf_141 : cf_D k_cal_serialOf 141 (.if_icmp .ge 10) 3 144 := ⟨by decide +kernel, rfl⟩
theorem d_cal_serialOf_144 : cf_D k_cal_serialOf 144 (.iload 5) 2 146 := ⟨by decide +kernel, rfl⟩
theorem d_cal_serialOf_146 : cf_D k_cal_serialOf 146 (.iconst 1) 1 147 := ⟨by decide +kernel, rfl⟩
theorem d_cal_serialOf_147 : cf_D k_cal_serialOf 147 (.iadd) 1 148 := ⟨by decide +kernel, rfl⟩
theorem d_cal_serialOf_148 : cf_D k_cal_serialOf 148 (.goto 7) 3 151 := ⟨by decide +kernel, rfl⟩
theorem d_cal_serialOf_151 : cf_D k_cal_serialOf 151 (.iload 5) 2 153 := ⟨by decide +kernel, rfl⟩
theorem d_cal_serialOf_153 : cf_D k_cal_serialOf 153 (.iconst 2) 1 154 := ⟨by decide +kernel, rfl⟩
theorem d_cal_serialOf_154 : cf_D k_cal_serialOf 154 (.iadd) 1 155 := ⟨by decide +kernel, rfl⟩
theorem d_cal_serialOf_155 : cf_D k_cal_serialOf 155 (.ireturn) 1 156 := ⟨by decide +kernel, rfl⟩
theorem d_mod_feed_0 : cf_D k_mod_feed 0 (.iload_n 1) 1 1 := ⟨by decide +kernel, rfl⟩
theorem d_mod_feed_1 : cf_D k_mod_feed 1 (.bipush 32) 2 3 := ⟨by decide +kernel, rfl⟩
theorem d_mod_feed_3 : cf_D k_mod_feed 3 (.if_icmp .lt 18) 3 6 := ⟨by decide +kernel, rfl⟩
theorem d_mod_feed_6 : cf_D k_mod_feed 6 (.iload_n 1) 1 7 := ⟨by decide +kernel, rfl⟩
theorem d_mod_feed_7 : cf_D k_mod_feed 7 (.bipush 126) 2 9 := ⟨by decide +kernel, rfl⟩
theorem d_mod_feed_9 : cf_D k_mod_feed 9 (.if_icmp .gt 12) 3 12 := ⟨by decide +kernel, rfl⟩
theorem d_mod_feed_12 : cf_D k_mod_feed 12 (.aload_n 0) 1 13 := ⟨by decide +kernel, rfl⟩
theorem d_mod_feed_13 : cf_D k_mod_feed 13 (.getfield 36) 3 16 := ⟨by decide +kernel, rfl⟩
theorem d_mod_feed_16 : cf_D k_mod_feed 16 (.bipush 40) 2 18 := ⟨by decide +kernel, rfl⟩
theorem d_mod_feed_18 : cf_D k_mod_feed 18 (.if_icmp .ne 5) 3 21 := ⟨by decide +kernel, rfl⟩
theorem d_mod_feed_21 : cf_D k_mod_feed 21 (.iconst 0) 1 22 := ⟨by decide +kernel, rfl⟩
theorem d_mod_feed_22 : cf_D k_mod_feed 22 (.ireturn) 1 23 := ⟨by decide +kernel, rfl⟩
theorem d_mod_feed_23 : cf_D k_mod_feed 23 (.aload_n 0) 1 24 := ⟨by decide +kernel, rfl⟩
theorem d_mod_feed_24 : cf_D k_mod_feed 24 (.getfield 7) 3 27 := ⟨by decide +kernel, rfl⟩
theorem d_mod_feed_27 : cf_D k_mod_feed 27 (.aload_n 0) 1 28 := ⟨by decide +kernel, rfl⟩
theorem d_mod_feed_28 : cf_D k_mod_feed 28 (.getfield 36) 3 31 := ⟨by decide +kernel, rfl⟩
theorem d_mod_feed_31 : cf_D k_mod_feed 31 (.iload_n 1) 1 32 := ⟨by decide +kernel, rfl⟩
theorem d_mod_feed_32 : cf_D k_mod_feed 32 (.iastore) 1 33 := ⟨by decide +kernel, rfl⟩
theorem d_mod_feed_33 : cf_D k_mod_feed 33 (.aload_n 0) 1 34 := ⟨by decide +kernel, rfl⟩
theorem d_mod_feed_34 : cf_D k_mod_feed 34 (.dup) 1 35 := ⟨by decide +kernel, rfl⟩
theorem d_mod_feed_35 : cf_D k_mod_feed 35 (.getfield 36) 3 38 := ⟨by decide +kernel, rfl⟩
theorem d_mod_feed_38 : cf_D k_mod_feed 38 (.iconst 1) 1 39 := ⟨by decide +kernel, rfl⟩
theorem d_mod_feed_39 : cf_D k_mod_feed 39 (.iadd) 1 40 := ⟨by decide +kernel, rfl⟩
theorem d_mod_feed_40 : cf_D k_mod_feed 40 (.putfield 36) 3 43 := ⟨by decide +kernel, rfl⟩
theorem d_mod_feed_43 : cf_D k_mod_feed 43 (.iconst 1) 1 44 := ⟨by decide +kernel, rfl⟩
theorem d_mod_feed_44 : cf_D k_mod_feed 44 (.ireturn) 1 45 := ⟨by decide +kernel, rfl⟩
theorem d_mod_erase_0 : cf_D k_mod_erase 0 (.aload_n 0) 1 1 := ⟨by decide +kernel, rfl⟩
theorem d_mod_erase_1 : cf_D k_mod_erase 1 (.iconst 0) 1 2 := ⟨by decide +kernel, rfl⟩
theorem d_mod_erase_2 : cf_D k_mod_erase 2 (.putfield 36) 3 5 := ⟨by decide +kernel, rfl⟩
theorem d_mod_erase_5 : cf_D k_mod_erase 5 (.return_) 1 6 := ⟨by decide +kernel, rfl⟩
theorem d_mod_compile_0 : cf_D k_mod_compile 0 (.aload_n 0) 1 1 := ⟨by decide +kernel, rfl⟩
theorem d_mod_compile_1 : cf_D k_mod_compile 1 (.iconst 0) 1 2 := ⟨by decide +kernel, rfl⟩
theorem d_mod_compile_2 : cf_D k_mod_compile 2 (.putfield 79) 3 5 := ⟨by decide +kernel, rfl⟩
theorem d_mod_compile_5 : cf_D k_mod_compile 5 (.aload_n 0) 1 6 := ⟨by decide +kernel, rfl⟩
theorem d_mod_compile_6 : cf_D k_mod_compile 6 (.iconst 0) 1 7 := ⟨by decide +kernel, rfl⟩
theorem d_mod_compile_7 : cf_D k_mod_compile 7 (.putfield 82) 3 10 := ⟨by decide +kernel, rfl⟩
theorem d_mod_compile_10 : cf_D k_mod_compile 10 (.iconst 1) 1 11 := ⟨by decide +kernel, rfl⟩
theorem d_mod_compile_11 : cf_D k_mod_compile 11 (.istore_n 1) 1 12 := ⟨by decide +kernel, rfl⟩
theorem d_mod_compile_12 : cf_D k_mod_compile 12 (.aload_n 0) 1 13 := ⟨by decide +kernel, rfl⟩
theorem d_mod_compile_13 : cf_D k_mod_compile 13 (.getfield 25) 3 16 := ⟨by decide +kernel, rfl⟩
theorem d_mod_compile_16 : cf_D k_mod_compile 16 (.iconst 0) 1 17 := ⟨by decide +kernel, rfl⟩
theorem d_mod_compile_17 : cf_D k_mod_compile 17 (.iconst 0) 1 18 := ⟨by decide +kernel, rfl⟩
theorem d_mod_compile_18 : cf_D k_mod_compile 18 (.iastore) 1 19 := ⟨by decide +kernel, rfl⟩
theorem d_mod_compile_19 : cf_D k_mod_compile 19 (.iconst 0) 1 20 := ⟨by decide +kernel, rfl⟩
theorem d_mod_compile_20 : cf_D k_mod_compile 20 (.istore_n 2) 1 21 := ⟨by decide +kernel, rfl⟩
theorem d_mod_compile_21 : cf_D k_mod_compile 21 (.iload_n 2) 1 22 := ⟨by decide +kernel, rfl⟩
theorem d_mod_compile_22 : cf_D k_mod_compile 22 (.aload_n 0) 1 23 := ⟨by decide +kernel, rfl⟩
theorem d_mod_compile_23 : cf_D k_mod_compile 23 (.getfield 36) 3 26 := ⟨by decide +kernel, rfl⟩
theorem d_mod_compile_26 : cf_D k_mod_compile 26 (.if_icmp .ge 107) 3 29 := ⟨by decide +kernel, rfl⟩
theorem d_mod_compile_29 : cf_D k_mod_compile 29 (.aload_n 0) 1 30 := ⟨by decide +kernel, rfl⟩
theorem d_mod_compile_30 : cf_D k_mod_compile 30 (.getfield 7) 3 33 := ⟨by decide +kernel, rfl⟩
theorem d_mod_compile_33 : cf_D k_mod_compile 33 (.iload_n 2) 1 34 := ⟨by decide +kernel, rfl⟩
theorem d_mod_compile_34 : cf_D k_mod_compile 34 (.iaload) 1 35 := ⟨by decide +kernel, rfl⟩
theorem d_mod_compile_35 : cf_D k_mod_compile 35 (.bipush 59) 2 37 := ⟨by decide +kernel, rfl⟩
theorem d_mod_compile_37 : cf_D k_mod_compile 37 (.if_icmp .ne 22) 3 40 := ⟨by decide +kernel, rfl⟩
theorem d_mod_compile_40 : cf_D k_mod_compile 40 (.aload_n 0) 1 41 := ⟨by decide +kernel, rfl⟩
theorem d_mod_compile_41 : cf_D k_mod_compile 41 (.getfield 25) 3 44 := ⟨by decide +kernel, rfl⟩
theorem d_mod_compile_44 : cf_D k_mod_compile 44 (.iload_n 1) 1 45 := ⟨by decide +kernel, rfl⟩
theorem d_mod_compile_45 : cf_D k_mod_compile 45 (.aload_n 0) 1 46 := ⟨by decide +kernel, rfl⟩
theorem d_mod_compile_46 : cf_D k_mod_compile 46 (.getfield 82) 3 49 := ⟨by decide +kernel, rfl⟩
theorem d_mod_compile_49 : cf_D k_mod_compile 49 (.iastore) 1 50 := ⟨by decide +kernel, rfl⟩
theorem d_mod_compile_50 : cf_D k_mod_compile 50 (.iinc 1 1) 3 53 := ⟨by decide +kernel, rfl⟩
theorem d_mod_compile_53 : cf_D k_mod_compile 53 (.iinc 2 1) 3 56 := ⟨by decide +kernel, rfl⟩
theorem d_mod_compile_56 : cf_D k_mod_compile 56 (.goto (-35)) 3 59 := ⟨by decide +kernel, rfl⟩
theorem d_mod_compile_59 : cf_D k_mod_compile 59 (.aload_n 0) 1 60 := ⟨by decide +kernel, rfl⟩
theorem d_mod_compile_60 : cf_D k_mod_compile 60 (.iload_n 2) 1 61 := ⟨by decide +kernel, rfl⟩
theorem d_mod_compile_61 : cf_D k_mod_compile 61 (.invokevirtual 85) 3 64 := ⟨by decide +kernel, rfl⟩
theorem d_mod_compile_64 : cf_D k_mod_compile 64 (.aload_n 0) 1 65 := ⟨by decide +kernel, rfl⟩
theorem d_mod_compile_65 : cf_D k_mod_compile 65 (.getfield 39) 3 68 := ⟨by decide +kernel, rfl⟩
theorem d_mod_compile_68 : cf_D k_mod_compile 68 (.ifCond .ne 8) 3 71 := ⟨by decide +kernel, rfl⟩
theorem d_mod_compile_71 : cf_D k_mod_compile 71 (.bipush (-100)) 2 73 := ⟨by decide +kernel, rfl⟩
theorem d_mod_compile_73 : cf_D k_mod_compile 73 (.iload_n 2) 1 74 := ⟨by decide +kernel, rfl⟩
theorem d_mod_compile_74 : cf_D k_mod_compile 74 (.isub) 1 75 := ⟨by decide +kernel, rfl⟩
theorem d_mod_compile_75 : cf_D k_mod_compile 75 (.ireturn) 1 76 := ⟨by decide +kernel, rfl⟩
theorem d_mod_compile_76 : cf_D k_mod_compile 76 (.aload_n 0) 1 77 := ⟨by decide +kernel, rfl⟩
theorem d_mod_compile_77 : cf_D k_mod_compile 77 (.getfield 16) 3 80 := ⟨by decide +kernel, rfl⟩
theorem d_mod_compile_80 : cf_D k_mod_compile 80 (.aload_n 0) 1 81 := ⟨by decide +kernel, rfl⟩
theorem d_mod_compile_81 : cf_D k_mod_compile 81 (.getfield 82) 3 84 := ⟨by decide +kernel, rfl⟩
theorem d_mod_compile_84 : cf_D k_mod_compile 84 (.aload_n 0) 1 85 := ⟨by decide +kernel, rfl⟩
theorem d_mod_compile_85 : cf_D k_mod_compile 85 (.getfield 39) 3 88 := ⟨by decide +kernel, rfl⟩
theorem d_mod_compile_88 : cf_D k_mod_compile 88 (.iastore) 1 89 := ⟨by decide +kernel, rfl⟩
theorem d_mod_compile_89 : cf_D k_mod_compile 89 (.aload_n 0) 1 90 := ⟨by decide +kernel, rfl⟩
theorem d_mod_compile_90 : cf_D k_mod_compile 90 (.getfield 19) 3 93 := ⟨by decide +kernel, rfl⟩
theorem d_mod_compile_93 : cf_D k_mod_compile 93 (.aload_n 0) 1 94 := ⟨by decide +kernel, rfl⟩
theorem d_mod_compile_94 : cf_D k_mod_compile 94 (.getfield 82) 3 97 := ⟨by decide +kernel, rfl⟩
theorem d_mod_compile_97 : cf_D k_mod_compile 97 (.aload_n 0) 1 98 := ⟨by decide +kernel, rfl⟩
theorem d_mod_compile_98 : cf_D k_mod_compile 98 (.getfield 42) 3 101 := ⟨by decide +kernel, rfl⟩
theorem d_mod_compile_101 : cf_D k_mod_compile 101 (.iastore) 1 102 := ⟨by decide +kernel, rfl⟩
theorem d_mod_compile_102 : cf_D k_mod_compile 102 (.aload_n 0) 1 103 := ⟨by decide +kernel, rfl⟩
theorem d_mod_compile_103 : cf_D k_mod_compile 103 (.getfield 22) 3 106 := ⟨by decide +kernel, rfl⟩
theorem d_mod_compile_106 : cf_D k_mod_compile 106 (.aload_n 0) 1 107 := ⟨by decide +kernel, rfl⟩
theorem d_mod_compile_107 : cf_D k_mod_compile 107 (.getfield 82) 3 110 := ⟨by decide +kernel, rfl⟩
theorem d_mod_compile_110 : cf_D k_mod_compile 110 (.aload_n 0) 1 111 := ⟨by decide +kernel, rfl⟩
theorem d_mod_compile_111 : cf_D k_mod_compile 111 (.getfield 45) 3 114 := ⟨by decide +kernel, rfl⟩
theorem d_mod_compile_114 : cf_D k_mod_compile 114 (.iastore) 1 115 := ⟨by decide +kernel, rfl⟩
theorem d_mod_compile_115 : cf_D k_mod_compile 115 (.aload_n 0) 1 116 := ⟨by decide +kernel, rfl⟩
theorem d_mod_compile_116 : cf_D k_mod_compile 116 (.dup) 1 117 := ⟨by decide +kernel, rfl⟩
theorem d_mod_compile_117 : cf_D k_mod_compile 117 (.getfield 82) 3 120 := ⟨by decide +kernel, rfl⟩
theorem d_mod_compile_120 : cf_D k_mod_compile 120 (.iconst 1) 1 121 := ⟨by decide +kernel, rfl⟩
theorem d_mod_compile_121 : cf_D k_mod_compile 121 (.iadd) 1 122 := ⟨by decide +kernel, rfl⟩
theorem d_mod_compile_122 : cf_D k_mod_compile 122 (.putfield 82) 3 125 := ⟨by decide +kernel, rfl⟩
theorem d_mod_compile_125 : cf_D k_mod_compile 125 (.aload_n 0) 1 126 := ⟨by decide +kernel, rfl⟩
theorem d_mod_compile_126 : cf_D k_mod_compile 126 (.getfield 48) 3 129 := ⟨by decide +kernel, rfl⟩
theorem d_mod_compile_129 : cf_D k_mod_compile 129 (.istore_n 2) 1 130 := ⟨by decide +kernel, rfl⟩
theorem d_mod_compile_130 : cf_D k_mod_compile 130 (.goto (-109)) 3 133 := ⟨by decide +kernel, rfl⟩
theorem d_mod_compile_133 : cf_D k_mod_compile 133 (.aload_n 0) 1 134 := ⟨by decide +kernel, rfl⟩
theorem d_mod_compile_134 : cf_D k_mod_compile 134 (.getfield 25) 3 137 := ⟨by decide +kernel, rfl⟩
theorem d_mod_compile_137 : cf_D k_mod_compile 137 (.iload_n 1) 1 138 := ⟨by decide +kernel, rfl⟩
theorem d_mod_compile_138 : cf_D k_mod_compile 138 (.aload_n 0) 1 139 := ⟨by decide +kernel, rfl⟩
theorem d_mod_compile_139 : cf_D k_mod_compile 139 (.getfield 82) 3 142 := ⟨by decide +kernel, rfl⟩
theorem d_mod_compile_142 : cf_D k_mod_compile 142 (.iastore) 1 143 := ⟨by decide +kernel, rfl⟩
theorem d_mod_compile_143 : cf_D k_mod_compile 143 (.iload_n 1) 1 144 := ⟨by decide +kernel, rfl⟩
theorem d_mod_compile_144 : cf_D k_mod_compile 144 (.iconst 3) 1 145 := ⟨by decide +kernel, rfl⟩
theorem d_mod_compile_145 : cf_D k_mod_compile 145 (.if_icmp .le 7) 3 148 := ⟨by decide +kernel, rfl⟩
theorem d_mod_compile_148 : cf_D k_mod_compile 148 (.sipush (-200)) 3 151 := ⟨by decide +kernel, rfl⟩
theorem d_mod_compile_151 : cf_D k_mod_compile 151 (.ireturn) 1 152 := ⟨by decide +kernel, rfl⟩
theorem d_mod_compile_152 : cf_D k_mod_compile 152 (.iconst 0) 1 153 := ⟨by decide +kernel, rfl⟩
theorem d_mod_compile_153 : cf_D k_mod_compile 153 (.istore_n 3) 1 154 := ⟨by decide +kernel, rfl⟩
theorem d_mod_compile_154 : cf_D k_mod_compile 154 (.iload_n 3) 1 155 := ⟨by decide +kernel, rfl⟩
theorem d_mod_compile_155 : cf_D k_mod_compile 155 (.iload_n 1) 1 156 := ⟨by decide +kernel, rfl⟩
theorem d_mod_compile_156 : cf_D k_mod_compile 156 (.if_icmp .ge 23) 3 159 := ⟨by decide +kernel, rfl⟩
theorem d_mod_compile_159 : cf_D k_mod_compile 159 (.aload_n 0) 1 160 := ⟨by decide +kernel, rfl⟩
theorem d_mod_compile_160 : cf_D k_mod_compile 160 (.iload_n 3) 1 161 := ⟨by decide +kernel, rfl⟩
theorem d_mod_compile_161 : cf_D k_mod_compile 161 (.invokevirtual 88) 3 164 := ⟨by decide +kernel, rfl⟩
theorem d_mod_compile_164 : cf_D k_mod_compile 164 (.ifCond .ne 9) 3 167 := ⟨by decide +kernel, rfl⟩
theorem d_mod_compile_167 : cf_D k_mod_compile 167 (.sipush (-201)) 3 170 := ⟨by decide +kernel, rfl⟩
theorem d_mod_compile_170 : cf_D k_mod_compile 170 (.iload_n 3) 1 171 := ⟨by decide +kernel, rfl⟩
theorem d_mod_compile_171 : cf_D k_mod_compile 171 (.isub) 1 172 := ⟨by decide +kernel, rfl⟩
theorem d_mod_compile_172 : cf_D k_mod_compile 172 (.ireturn) 1 173 := ⟨by decide +kernel, rfl⟩
theorem d_mod_compile_173 : cf_D k_mod_compile 173 (.iinc 3 1) 3 176 := ⟨by decide +kernel, rfl⟩
theorem d_mod_compile_176 : cf_D k_mod_compile 176 (.goto (-22)) 3 179 := ⟨by decide +kernel, rfl⟩
theorem d_mod_compile_179 : cf_D k_mod_compile 179 (.iconst 0) 1 180 := ⟨by decide +kernel, rfl⟩
theorem d_mod_compile_180 : cf_D k_mod_compile 180 (.istore_n 3) 1 181 := ⟨by decide +kernel, rfl⟩
theorem d_mod_compile_181 : cf_D k_mod_compile 181 (.iload_n 3) 1 182 := ⟨by decide +kernel, rfl⟩
theorem d_mod_compile_182 : cf_D k_mod_compile 182 (.aload_n 0) 1 183 := ⟨by decide +kernel, rfl⟩
theorem d_mod_compile_183 : cf_D k_mod_compile 183 (.getfield 36) 3 186 := ⟨by decide +kernel, rfl⟩
theorem d_mod_compile_186 : cf_D k_mod_compile 186 (.if_icmp .ge 21) 3 189 := ⟨by decide +kernel, rfl⟩
theorem d_mod_compile_189 : cf_D k_mod_compile 189 (.aload_n 0) 1 190 := ⟨by decide +kernel, rfl⟩
theorem d_mod_compile_190 : cf_D k_mod_compile 190 (.getfield 13) 3 193 := ⟨by decide +kernel, rfl⟩
theorem d_mod_compile_193 : cf_D k_mod_compile 193 (.iload_n 3) 1 194 := ⟨by decide +kernel, rfl⟩
theorem d_mod_compile_194 : cf_D k_mod_compile 194 (.aload_n 0) 1 195 := ⟨by decide +kernel, rfl⟩
theorem d_mod_compile_195 : cf_D k_mod_compile 195 (.getfield 7) 3 198 := ⟨by decide +kernel, rfl⟩
theorem d_mod_compile_198 : cf_D k_mod_compile 198 (.iload_n 3) 1 199 := ⟨by decide +kernel, rfl⟩
theorem d_mod_compile_199 : cf_D k_mod_compile 199 (.iaload) 1 200 := ⟨by decide +kernel, rfl⟩
theorem d_mod_compile_200 : cf_D k_mod_compile 200 (.iastore) 1 201 := ⟨by decide +kernel, rfl⟩
theorem d_mod_compile_201 : cf_D k_mod_compile 201 (.iinc 3 1) 3 204 := ⟨by decide +kernel, rfl⟩
theorem d_mod_compile_204 : cf_D k_mod_compile 204 (.goto (-23)) 3 207 := ⟨by decide +kernel, rfl⟩
theorem d_mod_compile_207 : cf_D k_mod_compile 207 (.aload_n 0) 1 208 := ⟨by decide +kernel, rfl⟩
theorem d_mod_compile_208 : cf_D k_mod_compile 208 (.iload_n 1) 1 209 := ⟨by decide +kernel, rfl⟩
theorem d_mod_compile_209 : cf_D k_mod_compile 209 (.putfield 79) 3 212 := ⟨by decide +kernel, rfl⟩
theorem d_mod_compile_212 : cf_D k_mod_compile 212 (.aload_n 0) 1 213 := ⟨by decide +kernel, rfl⟩
theorem d_mod_compile_213 : cf_D k_mod_compile 213 (.getfield 79) 3 216 := ⟨by decide +kernel, rfl⟩
theorem d_mod_compile_216 : cf_D k_mod_compile 216 (.ireturn) 1 217 := ⟨by decide +kernel, rfl⟩
theorem d_mod_token_0 : cf_D k_mod_token 0 (.aload_n 0) 1 1 := ⟨by decide +kernel, rfl⟩
theorem d_mod_token_1 : cf_D k_mod_token 1 (.iconst 0) 1 2 := ⟨by decide +kernel, rfl⟩
theorem d_mod_token_2 : cf_D k_mod_token 2 (.putfield 39) 3 5 := ⟨by decide +kernel, rfl⟩
theorem d_mod_token_5 : cf_D k_mod_token 5 (.aload_n 0) 1 6 := ⟨by decide +kernel, rfl⟩
theorem d_mod_token_6 : cf_D k_mod_token 6 (.iload_n 1) 1 7 := ⟨by decide +kernel, rfl⟩
theorem d_mod_token_7 : cf_D k_mod_token 7 (.invokevirtual 51) 3 10 := ⟨by decide +kernel, rfl⟩
theorem d_mod_token_10 : cf_D k_mod_token 10 (.istore_n 2) 1 11 := ⟨by decide +kernel, rfl⟩
theorem d_mod_token_11 : cf_D k_mod_token 11 (.aload_n 0) 1 12 := ⟨by decide +kernel, rfl⟩
theorem d_mod_token_12 : cf_D k_mod_token 12 (.iload_n 1) 1 13 := ⟨by decide +kernel, rfl⟩
theorem d_mod_token_13 : cf_D k_mod_token 13 (.iconst 1) 1 14 := ⟨by decide +kernel, rfl⟩
theorem d_mod_token_14 : cf_D k_mod_token 14 (.iadd) 1 15 := ⟨by decide +kernel, rfl⟩
theorem d_mod_token_15 : cf_D k_mod_token 15 (.invokevirtual 51) 3 18 := ⟨by decide +kernel, rfl⟩
theorem d_mod_token_18 : cf_D k_mod_token 18 (.istore_n 3) 1 19 := ⟨by decide +kernel, rfl⟩
theorem d_mod_token_19 : cf_D k_mod_token 19 (.iload_n 2) 1 20 := ⟨by decide +kernel, rfl⟩
theorem d_mod_token_20 : cf_D k_mod_token 20 (.bipush 34) 2 22 := ⟨by decide +kernel, rfl⟩
theorem d_mod_token_22 : cf_D k_mod_token 22 (.if_icmp .ne 11) 3 25 := ⟨by decide +kernel, rfl⟩
theorem d_mod_token_25 : cf_D k_mod_token 25 (.aload_n 0) 1 26 := ⟨by decide +kernel, rfl⟩
theorem d_mod_token_26 : cf_D k_mod_token 26 (.iload_n 1) 1 27 := ⟨by decide +kernel, rfl⟩
theorem d_mod_token_27 : cf_D k_mod_token 27 (.invokevirtual 66) 3 30 := ⟨by decide +kernel, rfl⟩
theorem d_mod_token_30 : cf_D k_mod_token 30 (.goto 306) 3 33 := ⟨by decide +kernel, rfl⟩
theorem d_mod_token_33 : cf_D k_mod_token 33 (.iload_n 2) 1 34 := ⟨by decide +kernel, rfl⟩
theorem d_mod_token_34 : cf_D k_mod_token 34 (.bipush 92) 2 36 := ⟨by decide +kernel, rfl⟩
theorem d_mod_token_36 : cf_D k_mod_token 36 (.if_icmp .ne 24) 3 39 := ⟨by decide +kernel, rfl⟩
theorem d_mod_token_39 : cf_D k_mod_token 39 (.iload_n 3) 1 40 := ⟨by decide +kernel, rfl⟩
theorem d_mod_token_40 : cf_D k_mod_token 40 (.ifCond .eq 20) 3 43 := ⟨by decide +kernel, rfl⟩
theorem d_mod_token_43 : cf_D k_mod_token 43 (.aload_n 0) 1 44 := ⟨by decide +kernel, rfl⟩
theorem d_mod_token_44 : cf_D k_mod_token 44 (.iconst 1) 1 45 := ⟨by decide +kernel, rfl⟩
theorem d_mod_token_45 : cf_D k_mod_token 45 (.iload_n 1) 1 46 := ⟨by decide +kernel, rfl⟩
theorem d_mod_token_46 : cf_D k_mod_token 46 (.iconst 1) 1 47 := ⟨by decide +kernel, rfl⟩
theorem d_mod_token_47 : cf_D k_mod_token 47 (.iadd) 1 48 := ⟨by decide +kernel, rfl⟩
theorem d_mod_token_48 : cf_D k_mod_token 48 (.iload_n 1) 1 49 := ⟨by decide +kernel, rfl⟩
theorem d_mod_token_49 : cf_D k_mod_token 49 (.iconst 2) 1 50 := ⟨by decide +kernel, rfl⟩
theorem d_mod_token_50 : cf_D k_mod_token 50 (.iadd) 1 51 := ⟨by decide +kernel, rfl⟩
theorem d_mod_token_51 : cf_D k_mod_token 51 (.iload_n 1) 1 52 := ⟨by decide +kernel, rfl⟩
theorem d_mod_token_52 : cf_D k_mod_token 52 (.iconst 2) 1 53 := ⟨by decide +kernel, rfl⟩
theorem d_mod_token_53 : cf_D k_mod_token 53 (.iadd) 1 54 := ⟨by decide +kernel, rfl⟩
theorem d_mod_token_54 : cf_D k_mod_token 54 (.invokevirtual 55) 3 57 := ⟨by decide +kernel, rfl⟩
theorem d_mod_token_57 : cf_D k_mod_token 57 (.goto 279) 3 60 := ⟨by decide +kernel, rfl⟩
theorem d_mod_token_60 : cf_D k_mod_token 60 (.iload_n 2) 1 61 := ⟨by decide +kernel, rfl⟩
theorem d_mod_token_61 : cf_D k_mod_token 61 (.bipush 95) 2 63 := ⟨by decide +kernel, rfl⟩
theorem d_mod_token_63 : cf_D k_mod_token 63 (.if_icmp .ne 20) 3 66 := ⟨by decide +kernel, rfl⟩
theorem d_mod_token_66 : cf_D k_mod_token 66 (.iload_n 3) 1 67 := ⟨by decide +kernel, rfl⟩
theorem d_mod_token_67 : cf_D k_mod_token 67 (.ifCond .eq 16) 3 70 := ⟨by decide +kernel, rfl⟩
theorem d_mod_token_70 : cf_D k_mod_token 70 (.aload_n 0) 1 71 := ⟨by decide +kernel, rfl⟩
theorem d_mod_token_71 : cf_D k_mod_token 71 (.iconst 1) 1 72 := ⟨by decide +kernel, rfl⟩
theorem d_mod_token_72 : cf_D k_mod_token 72 (.iconst (-1)) 1 73 := ⟨by decide +kernel, rfl⟩
theorem d_mod_token_73 : cf_D k_mod_token 73 (.iconst 0) 1 74 := ⟨by decide +kernel, rfl⟩
theorem d_mod_token_74 : cf_D k_mod_token 74 (.iload_n 1) 1 75 := ⟨by decide +kernel, rfl⟩
theorem d_mod_token_75 : cf_D k_mod_token 75 (.iconst 2) 1 76 := ⟨by decide +kernel, rfl⟩
theorem d_mod_token_76 : cf_D k_mod_token 76 (.iadd) 1 77 := ⟨by decide +kernel, rfl⟩
theorem d_mod_token_77 : cf_D k_mod_token 77 (.invokevirtual 55) 3 80 := ⟨by decide +kernel, rfl⟩
theorem d_mod_token_80 : cf_D k_mod_token 80 (.goto 256) 3 83 := ⟨by decide +kernel, rfl⟩
theorem d_mod_token_83 : cf_D k_mod_token 83 (.iload_n 2) 1 84 := ⟨by decide +kernel, rfl⟩
theorem d_mod_token_84 : cf_D k_mod_token 84 (.invokestatic 70) 3 87 := ⟨by decide +kernel, rfl⟩
theorem d_mod_token_87 : cf_D k_mod_token 87 (.ifCond .eq 18) 3 90 := ⟨by decide +kernel, rfl⟩
theorem d_mod_token_90 : cf_D k_mod_token 90 (.aload_n 0) 1 91 := ⟨by decide +kernel, rfl⟩
theorem d_mod_token_91 : cf_D k_mod_token 91 (.iconst 1) 1 92 := ⟨by decide +kernel, rfl⟩
theorem d_mod_token_92 : cf_D k_mod_token 92 (.iload_n 1) 1 93 := ⟨by decide +kernel, rfl⟩
theorem d_mod_token_93 : cf_D k_mod_token 93 (.iload_n 1) 1 94 := ⟨by decide +kernel, rfl⟩
theorem d_mod_token_94 : cf_D k_mod_token 94 (.iconst 1) 1 95 := ⟨by decide +kernel, rfl⟩
theorem d_mod_token_95 : cf_D k_mod_token 95 (.iadd) 1 96 := ⟨by decide +kernel, rfl⟩
theorem d_mod_token_96 : cf_D k_mod_token 96 (.iload_n 1) 1 97 := ⟨by decide +kernel, rfl⟩
theorem d_mod_token_97 : cf_D k_mod_token 97 (.iconst 1) 1 98 := ⟨by decide +kernel, rfl⟩
theorem d_mod_token_98 : cf_D k_mod_token 98 (.iadd) 1 99 := ⟨by decide +kernel, rfl⟩
theorem d_mod_token_99 : cf_D k_mod_token 99 (.invokevirtual 55) 3 102 := ⟨by decide +kernel, rfl⟩
theorem d_mod_token_102 : cf_D k_mod_token 102 (.goto 234) 3 105 := ⟨by decide +kernel, rfl⟩
theorem d_mod_token_105 : cf_D k_mod_token 105 (.iload_n 2) 1 106 := ⟨by decide +kernel, rfl⟩
theorem d_mod_token_106 : cf_D k_mod_token 106 (.bipush 48) 2 108 := ⟨by decide +kernel, rfl⟩
theorem d_mod_token_108 : cf_D k_mod_token 108 (.if_icmp .eq 15) 3 111 := ⟨by decide +kernel, rfl⟩
theorem d_mod_token_111 : cf_D k_mod_token 111 (.iload_n 2) 1 112 := ⟨by decide +kernel, rfl⟩
theorem d_mod_token_112 : cf_D k_mod_token 112 (.bipush 35) 2 114 := ⟨by decide +kernel, rfl⟩
theorem d_mod_token_114 : cf_D k_mod_token 114 (.if_icmp .eq 9) 3 117 := ⟨by decide +kernel, rfl⟩
theorem d_mod_token_117 : cf_D k_mod_token 117 (.iload_n 2) 1 118 := ⟨by decide +kernel, rfl⟩
theorem d_mod_token_118 : cf_D k_mod_token 118 (.bipush 63) 2 120 := ⟨by decide +kernel, rfl⟩
theorem d_mod_token_120 : cf_D k_mod_token 120 (.if_icmp .ne 16) 3 123 := ⟨by decide +kernel, rfl⟩
theorem d_mod_token_123 : cf_D k_mod_token 123 (.aload_n 0) 1 124 := ⟨by decide +kernel, rfl⟩
theorem d_mod_token_124 : cf_D k_mod_token 124 (.iconst 2) 1 125 := ⟨by decide +kernel, rfl⟩
theorem d_mod_token_125 : cf_D k_mod_token 125 (.iload_n 2) 1 126 := ⟨by decide +kernel, rfl⟩
theorem d_mod_token_126 : cf_D k_mod_token 126 (.iconst 0) 1 127 := ⟨by decide +kernel, rfl⟩
theorem d_mod_token_127 : cf_D k_mod_token 127 (.iload_n 1) 1 128 := ⟨by decide +kernel, rfl⟩
theorem d_mod_token_128 : cf_D k_mod_token 128 (.iconst 1) 1 129 := ⟨by decide +kernel, rfl⟩
theorem d_mod_token_129 : cf_D k_mod_token 129 (.iadd) 1 130 := ⟨by decide +kernel, rfl⟩
theorem d_mod_token_130 : cf_D k_mod_token 130 (.invokevirtual 55) 3 133 := ⟨by decide +kernel, rfl⟩
theorem d_mod_token_133 : cf_D k_mod_token 133 (.goto 203) 3 136 := ⟨by decide +kernel, rfl⟩
theorem d_mod_token_136 : cf_D k_mod_token 136 (.iload_n 2) 1 137 := ⟨by decide +kernel, rfl⟩
theorem d_mod_token_137 : cf_D k_mod_token 137 (.bipush 46) 2 139 := ⟨by decide +kernel, rfl⟩
theorem d_mod_token_139 : cf_D k_mod_token 139 (.if_icmp .ne 16) 3 142 := ⟨by decide +kernel, rfl⟩
theorem d_mod_token_142 : cf_D k_mod_token 142 (.aload_n 0) 1 143 := ⟨by decide +kernel, rfl⟩
theorem d_mod_token_143 : cf_D k_mod_token 143 (.iconst 3) 1 144 := ⟨by decide +kernel, rfl⟩
theorem d_mod_token_144 : cf_D k_mod_token 144 (.iconst 0) 1 145 := ⟨by decide +kernel, rfl⟩
theorem d_mod_token_145 : cf_D k_mod_token 145 (.iconst 0) 1 146 := ⟨by decide +kernel, rfl⟩
theorem d_mod_token_146 : cf_D k_mod_token 146 (.iload_n 1) 1 147 := ⟨by decide +kernel, rfl⟩
theorem d_mod_token_147 : cf_D k_mod_token 147 (.iconst 1) 1 148 := ⟨by decide +kernel, rfl⟩
theorem d_mod_token_148 : cf_D k_mod_token 148 (.iadd) 1 149 := ⟨by decide +kernel, rfl⟩
theorem d_mod_token_149 : cf_D k_mod_token 149 (.invokevirtual 55) 3 152 := ⟨by decide +kernel, rfl⟩
theorem d_mod_token_152 : cf_D k_mod_token 152 (.goto 184) 3 155 := ⟨by decide +kernel, rfl⟩
theorem d_mod_token_155 : cf_D k_mod_token 155 (.iload_n 2) 1 156 := ⟨by decide +kernel, rfl⟩
theorem d_mod_token_156 : cf_D k_mod_token 156 (.bipush 44) 2 158 := ⟨by decide +kernel, rfl⟩
theorem d_mod_token_158 : cf_D k_mod_token 158 (.if_icmp .ne 16) 3 161 := ⟨by decide +kernel, rfl⟩
theorem d_mod_token_161 : cf_D k_mod_token 161 (.aload_n 0) 1 162 := ⟨by decide +kernel, rfl⟩
theorem d_mod_token_162 : cf_D k_mod_token 162 (.iconst 4) 1 163 := ⟨by decide +kernel, rfl⟩
theorem d_mod_token_163 : cf_D k_mod_token 163 (.iconst 0) 1 164 := ⟨by decide +kernel, rfl⟩
theorem d_mod_token_164 : cf_D k_mod_token 164 (.iconst 0) 1 165 := ⟨by decide +kernel, rfl⟩
theorem d_mod_token_165 : cf_D k_mod_token 165 (.iload_n 1) 1 166 := ⟨by decide +kernel, rfl⟩
theorem d_mod_token_166 : cf_D k_mod_token 166 (.iconst 1) 1 167 := ⟨by decide +kernel, rfl⟩
theorem d_mod_token_167 : cf_D k_mod_token 167 (.iadd) 1 168 := ⟨by decide +kernel, rfl⟩
theorem d_mod_token_168 : cf_D k_mod_token 168 (.invokevirtual 55) 3 171 := ⟨by decide +kernel, rfl⟩
theorem d_mod_token_171 : cf_D k_mod_token 171 (.goto 165) 3 174 := ⟨by decide +kernel, rfl⟩
theorem d_mod_token_174 : cf_D k_mod_token 174 (.iload_n 2) 1 175 := ⟨by decide +kernel, rfl⟩
theorem d_mod_token_175 : cf_D k_mod_token 175 (.bipush 37) 2 177 := ⟨by decide +kernel, rfl⟩
theorem d_mod_token_177 : cf_D k_mod_token 177 (.if_icmp .ne 16) 3 180 := ⟨by decide +kernel, rfl⟩
theorem d_mod_token_180 : cf_D k_mod_token 180 (.aload_n 0) 1 181 := ⟨by decide +kernel, rfl⟩
theorem d_mod_token_181 : cf_D k_mod_token 181 (.iconst 5) 1 182 := ⟨by decide +kernel, rfl⟩
theorem d_mod_token_182 : cf_D k_mod_token 182 (.iconst 0) 1 183 := ⟨by decide +kernel, rfl⟩
theorem d_mod_token_183 : cf_D k_mod_token 183 (.iconst 0) 1 184 := ⟨by decide +kernel, rfl⟩
theorem d_mod_token_184 : cf_D k_mod_token 184 (.iload_n 1) 1 185 := ⟨by decide +kernel, rfl⟩
theorem d_mod_token_185 : cf_D k_mod_token 185 (.iconst 1) 1 186 := ⟨by decide +kernel, rfl⟩
theorem d_mod_token_186 : cf_D k_mod_token 186 (.iadd) 1 187 := ⟨by decide +kernel, rfl⟩
theorem d_mod_token_187 : cf_D k_mod_token 187 (.invokevirtual 55) 3 190 := ⟨by decide +kernel, rfl⟩
theorem d_mod_token_190 : cf_D k_mod_token 190 (.goto 146) 3 193 := ⟨by decide +kernel, rfl⟩
theorem d_mod_token_193 : cf_D k_mod_token 193 (.iload_n 2) 1 194 := ⟨by decide +kernel, rfl⟩
theorem d_mod_token_194 : cf_D k_mod_token 194 (.bipush 69) 2 196 := ⟨by decide +kernel, rfl⟩
theorem d_mod_token_196 : cf_D k_mod_token 196 (.if_icmp .ne 29) 3 199 := ⟨by decide +kernel, rfl⟩
theorem d_mod_token_199 : cf_D k_mod_token 199 (.iload_n 3) 1 200 := ⟨by decide +kernel, rfl⟩
theorem d_mod_token_200 : cf_D k_mod_token 200 (.bipush 43) 2 202 := ⟨by decide +kernel, rfl⟩
theorem d_mod_token_202 : cf_D k_mod_token 202 (.if_icmp .eq 9) 3 205 := ⟨by decide +kernel, rfl⟩
theorem d_mod_token_205 : cf_D k_mod_token 205 (.iload_n 3) 1 206 := ⟨by decide +kernel, rfl⟩
theorem d_mod_token_206 : cf_D k_mod_token 206 (.bipush 45) 2 208 := ⟨by decide +kernel, rfl⟩
theorem d_mod_token_208 : cf_D k_mod_token 208 (.if_icmp .ne 17) 3 211 := ⟨by decide +kernel, rfl⟩
theorem d_mod_token_211 : cf_D k_mod_token 211 (.aload_n 0) 1 212 := ⟨by decide +kernel, rfl⟩
theorem d_mod_token_212 : cf_D k_mod_token 212 (.bipush 6) 2 214 := ⟨by decide +kernel, rfl⟩
theorem d_mod_token_214 : cf_D k_mod_token 214 (.iload_n 3) 1 215 := ⟨by decide +kernel, rfl⟩
theorem d_mod_token_215 : cf_D k_mod_token 215 (.iconst 0) 1 216 := ⟨by decide +kernel, rfl⟩
theorem d_mod_token_216 : cf_D k_mod_token 216 (.iload_n 1) 1 217 := ⟨by decide +kernel, rfl⟩
theorem d_mod_token_217 : cf_D k_mod_token 217 (.iconst 2) 1 218 := ⟨by decide +kernel, rfl⟩
theorem d_mod_token_218 : cf_D k_mod_token 218 (.iadd) 1 219 := ⟨by decide +kernel, rfl⟩
theorem d_mod_token_219 : cf_D k_mod_token 219 (.invokevirtual 55) 3 222 := ⟨by decide +kernel, rfl⟩
theorem d_mod_token_222 : cf_D k_mod_token 222 (.goto 114) 3 225 := ⟨by decide +kernel, rfl⟩
theorem d_mod_token_225 : cf_D k_mod_token 225 (.iload_n 2) 1 226 := ⟨by decide +kernel, rfl⟩
theorem d_mod_token_226 : cf_D k_mod_token 226 (.bipush 91) 2 228 := ⟨by decide +kernel, rfl⟩
theorem d_mod_token_228 : cf_D k_mod_token 228 (.if_icmp .ne 11) 3 231 := ⟨by decide +kernel, rfl⟩
theorem d_mod_token_231 : cf_D k_mod_token 231 (.aload_n 0) 1 232 := ⟨by decide +kernel, rfl⟩
theorem d_mod_token_232 : cf_D k_mod_token 232 (.iload_n 1) 1 233 := ⟨by decide +kernel, rfl⟩
theorem d_mod_token_233 : cf_D k_mod_token 233 (.invokevirtual 73) 3 236 := ⟨by decide +kernel, rfl⟩
theorem d_mod_token_236 : cf_D k_mod_token 236 (.goto 100) 3 239 := ⟨by decide +kernel, rfl⟩
theorem d_mod_token_239 : cf_D k_mod_token 239 (.iload_n 2) 1 240 := ⟨by decide +kernel, rfl⟩
theorem d_mod_token_240 : cf_D k_mod_token 240 (.bipush 121) 2 242 := ⟨by decide +kernel, rfl⟩
theorem d_mod_token_242 : cf_D k_mod_token 242 (.if_icmp .eq 27) 3 245 := ⟨by decide +kernel, rfl⟩
theorem d_mod_token_245 : cf_D k_mod_token 245 (.iload_n 2) 1 246 := ⟨by decide +kernel, rfl⟩
theorem d_mod_token_246 : cf_D k_mod_token 246 (.bipush 109) 2 248 := ⟨by decide +kernel, rfl⟩
theorem d_mod_token_248 : cf_D k_mod_token 248 (.if_icmp .eq 21) 3 251 := ⟨by decide +kernel, rfl⟩
theorem d_mod_token_251 : cf_D k_mod_token 251 (.iload_n 2) 1 252 := ⟨by decide +kernel, rfl⟩
theorem d_mod_token_252 : cf_D k_mod_token 252 (.bipush 100) 2 254 := ⟨by decide +kernel, rfl⟩
theorem d_mod_token_254 : cf_D k_mod_token 254 (.if_icmp .eq 15) 3 257 := ⟨by decide +kernel, rfl⟩
theorem d_mod_token_257 : cf_D k_mod_token 257 (.iload_n 2) 1 258 := ⟨by decide +kernel, rfl⟩
theorem d_mod_token_258 : cf_D k_mod_token 258 (.bipush 104) 2 260 := ⟨by decide +kernel, rfl⟩
theorem d_mod_token_260 : cf_D k_mod_token 260 (.if_icmp .eq 9) 3 263 := ⟨by decide +kernel, rfl⟩
theorem d_mod_token_263 : cf_D k_mod_token 263 (.iload_n 2) 1 264 := ⟨by decide +kernel, rfl⟩
theorem d_mod_token_264 : cf_D k_mod_token 264 (.bipush 115) 2 266 := ⟨by decide +kernel, rfl⟩
theorem d_mod_token_266 : cf_D k_mod_token 266 (.if_icmp .ne 11) 3 269 := ⟨by decide +kernel, rfl⟩
theorem d_mod_token_269 : cf_D k_mod_token 269 (.aload_n 0) 1 270 := ⟨by decide +kernel, rfl⟩
theorem d_mod_token_270 : cf_D k_mod_token 270 (.iload_n 1) 1 271 := ⟨by decide +kernel, rfl⟩
theorem d_mod_token_271 : cf_D k_mod_token 271 (.invokevirtual 76) 3 274 := ⟨by decide +kernel, rfl⟩
theorem d_mod_token_274 : cf_D k_mod_token 274 (.goto 62) 3 277 := ⟨by decide +kernel, rfl⟩
theorem d_mod_token_277 : cf_D k_mod_token 277 (.iload_n 2) 1 278 := ⟨by decide +kernel, rfl⟩
theorem d_mod_token_278 : cf_D k_mod_token 278 (.bipush 65) 2 280 := ⟨by decide +kernel, rfl⟩
theorem d_mod_token_280 : cf_D k_mod_token 280 (.if_icmp .ne 56) 3 283 := ⟨by decide +kernel, rfl⟩
theorem d_mod_token_283 : cf_D k_mod_token 283 (.iload_n 3) 1 284 := ⟨by decide +kernel, rfl⟩
theorem d_mod_token_284 : cf_D k_mod_token 284 (.bipush 77) 2 286 := ⟨by decide +kernel, rfl⟩
theorem d_mod_token_286 : cf_D k_mod_token 286 (.if_icmp .ne 50) 3 289 := ⟨by decide +kernel, rfl⟩
theorem d_mod_token_289 : cf_D k_mod_token 289 (.aload_n 0) 1 290 := ⟨by decide +kernel, rfl⟩
theorem d_mod_token_290 : cf_D k_mod_token 290 (.iload_n 1) 1 291 := ⟨by decide +kernel, rfl⟩
theorem d_mod_token_291 : cf_D k_mod_token 291 (.iconst 2) 1 292 := ⟨by decide +kernel, rfl⟩
theorem d_mod_token_292 : cf_D k_mod_token 292 (.iadd) 1 293 := ⟨by decide +kernel, rfl⟩
theorem d_mod_token_293 : cf_D k_mod_token 293 (.invokevirtual 51) 3 296 := ⟨by decide +kernel, rfl⟩
theorem d_mod_token_296 : cf_D k_mod_token 296 (.bipush 47) 2 298 := ⟨by decide +kernel, rfl⟩
theorem d_mod_token_298 : cf_D k_mod_token 298 (.if_icmp .ne 38) 3 301 := ⟨by decide +kernel, rfl⟩
theorem d_mod_token_301 : cf_D k_mod_token 301 (.aload_n 0) 1 302 := ⟨by decide +kernel, rfl⟩
theorem d_mod_token_302 : cf_D k_mod_token 302 (.iload_n 1) 1 303 := ⟨by decide +kernel, rfl⟩
theorem d_mod_token_303 : cf_D k_mod_token 303 (.iconst 3) 1 304 := ⟨by decide +kernel, rfl⟩
theorem d_mod_token_304 : cf_D k_mod_token 304 (.iadd) 1 305 := ⟨by decide +kernel, rfl⟩
theorem d_mod_token_305 : cf_D k_mod_token 305 (.invokevirtual 51) 3 308 := ⟨by decide +kernel, rfl⟩
theorem d_mod_token_308 : cf_D k_mod_token 308 (.bipush 80) 2 310 := ⟨by decide +kernel, rfl⟩
theorem d_mod_token_310 : cf_D k_mod_token 310 (.if_icmp .ne 26) 3 313 := ⟨by decide +kernel, rfl⟩
theorem d_mod_token_313 : cf_D k_mod_token 313 (.aload_n 0) 1 314 := ⟨by decide +kernel, rfl⟩
theorem d_mod_token_314 : cf_D k_mod_token 314 (.iload_n 1) 1 315 := ⟨by decide +kernel, rfl⟩
theorem d_mod_token_315 : cf_D k_mod_token 315 (.iconst 4) 1 316 := ⟨by decide +kernel, rfl⟩
theorem d_mod_token_316 : cf_D k_mod_token 316 (.iadd) 1 317 := ⟨by decide +kernel, rfl⟩
theorem d_mod_token_317 : cf_D k_mod_token 317 (.invokevirtual 51) 3 320 := ⟨by decide +kernel, rfl⟩
theorem d_mod_token_320 : cf_D k_mod_token 320 (.bipush 77) 2 322 := ⟨by decide +kernel, rfl⟩
theorem d_mod_token_322 : cf_D k_mod_token 322 (.if_icmp .ne 14) 3 325 := ⟨by decide +kernel, rfl⟩
theorem d_mod_token_325 : cf_D k_mod_token 325 (.aload_n 0) 1 326 := ⟨by decide +kernel, rfl⟩
theorem d_mod_token_326 : cf_D k_mod_token 326 (.bipush 10) 2 328 := ⟨by decide +kernel, rfl⟩
theorem d_mod_token_328 : cf_D k_mod_token 328 (.iconst 0) 1 329 := ⟨by decide +kernel, rfl⟩
theorem d_mod_token_329 : cf_D k_mod_token 329 (.iconst 0) 1 330 := ⟨by decide +kernel, rfl⟩
theorem d_mod_token_330 : cf_D k_mod_token 330 (.iload_n 1) 1 331 := ⟨by decide +kernel, rfl⟩
theorem d_mod_token_331 : cf_D k_mod_token 331 (.iconst 5) 1 332 := ⟨by decide +kernel, rfl⟩
theorem d_mod_token_332 : cf_D k_mod_token 332 (.iadd) 1 333 := ⟨by decide +kernel, rfl⟩
theorem d_mod_token_333 : cf_D k_mod_token 333 (.invokevirtual 55) 3 336 := ⟨by decide +kernel, rfl⟩
theorem d_mod_token_336 : cf_D k_mod_token 336 (.return_) 1 337 := ⟨by decide +kernel, rfl⟩
theorem d_mod_at_0 : cf_D k_mod_at 0 (.iload_n 1) 1 1 := ⟨by decide +kernel, rfl⟩
theorem d_mod_at_1 : cf_D k_mod_at 1 (.aload_n 0) 1 2 := ⟨by decide +kernel, rfl⟩
theorem d_mod_at_2 : cf_D k_mod_at 2 (.getfield 36) 3 5 := ⟨by decide +kernel, rfl⟩
theorem d_mod_at_5 : cf_D k_mod_at 5 (.if_icmp .ge 12) 3 8 := ⟨by decide +kernel, rfl⟩
theorem d_mod_at_8 : cf_D k_mod_at 8 (.aload_n 0) 1 9 := ⟨by decide +kernel, rfl⟩
theorem d_mod_at_9 : cf_D k_mod_at 9 (.getfield 7) 3 12 := ⟨by decide +kernel, rfl⟩
theorem d_mod_at_12 : cf_D k_mod_at 12 (.iload_n 1) 1 13 := ⟨by decide +kernel, rfl⟩
theorem d_mod_at_13 : cf_D k_mod_at 13 (.iaload) 1 14 := ⟨by decide +kernel, rfl⟩
theorem d_mod_at_14 : cf_D k_mod_at 14 (.goto 4) 3 17 := ⟨by decide +kernel, rfl⟩
theorem d_mod_at_17 : cf_D k_mod_at 17 (.iconst 0) 1 18 := ⟨by decide +kernel, rfl⟩
theorem d_mod_at_18 : cf_D k_mod_at 18 (.ireturn) 1 19 := ⟨by decide +kernel, rfl⟩
theorem d_mod_quoted_0 : cf_D k_mod_quoted 0 (.iload_n 1) 1 1 := ⟨by decide +kernel, rfl⟩
theorem d_mod_quoted_1 : cf_D k_mod_quoted 1 (.iconst 1) 1 2 := ⟨by decide +kernel, rfl⟩
theorem d_mod_quoted_2 : cf_D k_mod_quoted 2 (.iadd) 1 3 := ⟨by decide +kernel, rfl⟩
theorem d_mod_quoted_3 : cf_D k_mod_quoted 3 (.istore_n 2) 1 4 := ⟨by decide +kernel, rfl⟩
theorem d_mod_quoted_4 : cf_D k_mod_quoted 4 (.iload_n 2) 1 5 := ⟨by decide +kernel, rfl⟩
theorem d_mod_quoted_5 : cf_D k_mod_quoted 5 (.aload_n 0) 1 6 := ⟨by decide +kernel, rfl⟩
theorem d_mod_quoted_6 : cf_D k_mod_quoted 6 (.getfield 36) 3 9 := ⟨by decide +kernel, rfl⟩
theorem d_mod_quoted_9 : cf_D k_mod_quoted 9 (.if_icmp .ge 20) 3 12 := ⟨by decide +kernel, rfl⟩
theorem d_mod_quoted_12 : cf_D k_mod_quoted 12 (.aload_n 0) 1 13 := ⟨by decide +kernel, rfl⟩
theorem d_mod_quoted_13 : cf_D k_mod_quoted 13 (.getfield 7) 3 16 := ⟨by decide +kernel, rfl⟩
theorem d_mod_quoted_16 : cf_D k_mod_quoted 16 (.iload_n 2) 1 17 := ⟨by decide +kernel, rfl⟩
theorem d_mod_quoted_17 : cf_D k_mod_quoted 17 (.iaload) 1 18 := ⟨by decide +kernel, rfl⟩
theorem d_mod_quoted_18 : cf_D k_mod_quoted 18 (.bipush 34) 2 20 := ⟨by decide +kernel, rfl⟩
theorem d_mod_quoted_20 : cf_D k_mod_quoted 20 (.if_icmp .eq 9) 3 23 := ⟨by decide +kernel, rfl⟩
theorem d_mod_quoted_23 : cf_D k_mod_quoted 23 (.iinc 2 1) 3 26 := ⟨by decide +kernel, rfl⟩
theorem d_mod_quoted_26 : cf_D k_mod_quoted 26 (.goto (-22)) 3 29 := ⟨by decide +kernel, rfl⟩
theorem d_mod_quoted_29 : cf_D k_mod_quoted 29 (.iload_n 2) 1 30 := ⟨by decide +kernel, rfl⟩
theorem d_mod_quoted_30 : cf_D k_mod_quoted 30 (.aload_n 0) 1 31 := ⟨by decide +kernel, rfl⟩
theorem d_mod_quoted_31 : cf_D k_mod_quoted 31 (.getfield 36) 3 34 := ⟨by decide +kernel, rfl⟩
theorem d_mod_quoted_34 : cf_D k_mod_quoted 34 (.if_icmp .ge 15) 3 37 := ⟨by decide +kernel, rfl⟩
theorem d_mod_quoted_37 : cf_D k_mod_quoted 37 (.aload_n 0) 1 38 := ⟨by decide +kernel, rfl⟩
theorem d_mod_quoted_38 : cf_D k_mod_quoted 38 (.iconst 1) 1 39 := ⟨by decide +kernel, rfl⟩
theorem d_mod_quoted_39 : cf_D k_mod_quoted 39 (.iload_n 1) 1 40 := ⟨by decide +kernel, rfl⟩
theorem d_mod_quoted_40 : cf_D k_mod_quoted 40 (.iconst 1) 1 41 := ⟨by decide +kernel, rfl⟩
theorem d_mod_quoted_41 : cf_D k_mod_quoted 41 (.iadd) 1 42 := ⟨by decide +kernel, rfl⟩
theorem d_mod_quoted_42 : cf_D k_mod_quoted 42 (.iload_n 2) 1 43 := ⟨by decide +kernel, rfl⟩
theorem d_mod_quoted_43 : cf_D k_mod_quoted 43 (.iload_n 2) 1 44 := ⟨by decide +kernel, rfl⟩
theorem d_mod_quoted_44 : cf_D k_mod_quoted 44 (.iconst 1) 1 45 := ⟨by decide +kernel, rfl⟩
theorem d_mod_quoted_45 : cf_D k_mod_quoted 45 (.iadd) 1 46 := ⟨by decide +kernel, rfl⟩
theorem d_mod_quoted_46 : cf_D k_mod_quoted 46 (.invokevirtual 55) 3 49 := ⟨by decide +kernel, rfl⟩
theorem d_mod_quoted_49 : cf_D k_mod_quoted 49 (.return_) 1 50 := ⟨by decide +kernel, rfl⟩
theorem d_mod_meet_0 : cf_D k_mod_meet 0 (.aload_n 0) 1 1 := ⟨by decide +kernel, rfl⟩
theorem d_mod_meet_1 : cf_D k_mod_meet 1 (.iload_n 1) 1 2 := ⟨by decide +kernel, rfl⟩
theorem d_mod_meet_2 : cf_D k_mod_meet 2 (.putfield 39) 3 5 := ⟨by decide +kernel, rfl⟩
theorem d_mod_meet_5 : cf_D k_mod_meet 5 (.aload_n 0) 1 6 := ⟨by decide +kernel, rfl⟩
theorem d_mod_meet_6 : cf_D k_mod_meet 6 (.iload_n 2) 1 7 := ⟨by decide +kernel, rfl⟩
theorem d_mod_meet_7 : cf_D k_mod_meet 7 (.putfield 42) 3 10 := ⟨by decide +kernel, rfl⟩
theorem d_mod_meet_10 : cf_D k_mod_meet 10 (.aload_n 0) 1 11 := ⟨by decide +kernel, rfl⟩
theorem d_mod_meet_11 : cf_D k_mod_meet 11 (.iload_n 3) 1 12 := ⟨by decide +kernel, rfl⟩
theorem d_mod_meet_12 : cf_D k_mod_meet 12 (.putfield 45) 3 15 := ⟨by decide +kernel, rfl⟩
theorem d_mod_meet_15 : cf_D k_mod_meet 15 (.aload_n 0) 1 16 := ⟨by decide +kernel, rfl⟩
theorem d_mod_meet_16 : cf_D k_mod_meet 16 (.iload 4) 2 18 := ⟨by decide +kernel, rfl⟩
theorem d_mod_meet_18 : cf_D k_mod_meet 18 (.putfield 48) 3 21 := ⟨by decide +kernel, rfl⟩
theorem d_mod_meet_21 : cf_D k_mod_meet 21 (.return_) 1 22 := ⟨by decide +kernel, rfl⟩
theorem d_mod_bare_0 : cf_D k_mod_bare 0 (.iload_n 0) 1 1 := ⟨by decide +kernel, rfl⟩
theorem d_mod_bare_1 : cf_D k_mod_bare 1 (.bipush 32) 2 3 := ⟨by decide +kernel, rfl⟩
theorem d_mod_bare_3 : cf_D k_mod_bare 3 (.if_icmp .eq 93) 3 6 := ⟨by decide +kernel, rfl⟩
theorem d_mod_bare_6 : cf_D k_mod_bare 6 (.iload_n 0) 1 7 := ⟨by decide +kernel, rfl⟩
theorem d_mod_bare_7 : cf_D k_mod_bare 7 (.bipush 33) 2 9 := ⟨by decide +kernel, rfl⟩
theorem d_mod_bare_9 : cf_D k_mod_bare 9 (.if_icmp .eq 87) 3 12 := ⟨by decide +kernel, rfl⟩
theorem d_mod_bare_12 : cf_D k_mod_bare 12 (.iload_n 0) 1 13 := ⟨by decide +kernel, rfl⟩
theorem d_mod_bare_13 : cf_D k_mod_bare 13 (.bipush 36) 2 15 := ⟨by decide +kernel, rfl⟩
theorem d_mod_bare_15 : cf_D k_mod_bare 15 (.if_icmp .eq 81) 3 18 := ⟨by decide +kernel, rfl⟩
theorem d_mod_bare_18 : cf_D k_mod_bare 18 (.iload_n 0) 1 19 := ⟨by decide +kernel, rfl⟩
theorem d_mod_bare_19 : cf_D k_mod_bare 19 (.bipush 38) 2 21 := ⟨by decide +kernel, rfl⟩
theorem d_mod_bare_21 : cf_D k_mod_bare 21 (.if_icmp .eq 75) 3 24 := ⟨by decide +kernel, rfl⟩
theorem d_mod_bare_24 : cf_D k_mod_bare 24 (.iload_n 0) 1 25 := ⟨by decide +kernel, rfl⟩
theorem d_mod_bare_25 : cf_D k_mod_bare 25 (.bipush 39) 2 27 := ⟨by decide +kernel, rfl⟩
theorem d_mod_bare_27 : cf_D k_mod_bare 27 (.if_icmp .eq 69) 3 30 := ⟨by decide +kernel, rfl⟩
theorem d_mod_bare_30 : cf_D k_mod_bare 30 (.iload_n 0) 1 31 := ⟨by decide +kernel, rfl⟩
theorem d_mod_bare_31 : cf_D k_mod_bare 31 (.bipush 40) 2 33 := ⟨by decide +kernel, rfl⟩
theorem d_mod_bare_33 : cf_D k_mod_bare 33 (.if_icmp .eq 63) 3 36 := ⟨by decide +kernel, rfl⟩
theorem d_mod_bare_36 : cf_D k_mod_bare 36 (.iload_n 0) 1 37 := ⟨by decide +kernel, rfl⟩
theorem d_mod_bare_37 : cf_D k_mod_bare 37 (.bipush 41) 2 39 := ⟨by decide +kernel, rfl⟩
theorem d_mod_bare_39 : cf_D k_mod_bare 39 (.if_icmp .eq 57) 3 42 := ⟨by decide +kernel, rfl⟩
theorem d_mod_bare_42 : cf_D k_mod_bare 42 (.iload_n 0) 1 43 := ⟨by decide +kernel, rfl⟩
theorem d_mod_bare_43 : cf_D k_mod_bare 43 (.bipush 43) 2 45 := ⟨by decide +kernel, rfl⟩
theorem d_mod_bare_45 : cf_D k_mod_bare 45 (.if_icmp .eq 51) 3 48 := ⟨by decide +kernel, rfl⟩
theorem d_mod_bare_48 : cf_D k_mod_bare 48 (.iload_n 0) 1 49 := ⟨by decide +kernel, rfl⟩
theorem d_mod_bare_49 : cf_D k_mod_bare 49 (.bipush 45) 2 51 := ⟨by decide +kernel, rfl⟩
theorem d_mod_bare_51 : cf_D k_mod_bare 51 (.if_icmp .eq 45) 3 54 := ⟨by decide +kernel, rfl⟩
theorem d_mod_bare_54 : cf_D k_mod_bare 54 (.iload_n 0) 1 55 := ⟨by decide +kernel, rfl⟩
theorem d_mod_bare_55 : cf_D k_mod_bare 55 (.bipush 47) 2 57 := ⟨by decide +kernel, rfl⟩
theorem d_mod_bare_57 : cf_D k_mod_bare 57 (.if_icmp .eq 39) 3 60 := ⟨by decide +kernel, rfl⟩
theorem d_mod_bare_60 : cf_D k_mod_bare 60 (.iload_n 0) 1 61 := ⟨by decide +kernel, rfl⟩
theorem d_mod_bare_61 : cf_D k_mod_bare 61 (.bipush 58) 2 63 := ⟨by decide +kernel, rfl⟩
theorem d_mod_bare_63 : cf_D k_mod_bare 63 (.if_icmp .eq 33) 3 66 := ⟨by decide +kernel, rfl⟩
theorem d_mod_bare_66 : cf_D k_mod_bare 66 (.iload_n 0) 1 67 := ⟨by decide +kernel, rfl⟩
theorem d_mod_bare_67 : cf_D k_mod_bare 67 (.bipush 61) 2 69 := ⟨by decide +kernel, rfl⟩
theorem d_mod_bare_69 : cf_D k_mod_bare 69 (.if_icmp .eq 27) 3 72 := ⟨by decide +kernel, rfl⟩
theorem d_mod_bare_72 : cf_D k_mod_bare 72 (.iload_n 0) 1 73 := ⟨by decide +kernel, rfl⟩
theorem d_mod_bare_73 : cf_D k_mod_bare 73 (.bipush 94) 2 75 := ⟨by decide +kernel, rfl⟩
theorem d_mod_bare_75 : cf_D k_mod_bare 75 (.if_icmp .eq 21) 3 78 := ⟨by decide +kernel, rfl⟩
theorem d_mod_bare_78 : cf_D k_mod_bare 78 (.iload_n 0) 1 79 := ⟨by decide +kernel, rfl⟩
theorem d_mod_bare_79 : cf_D k_mod_bare 79 (.bipush 123) 2 81 := ⟨by decide +kernel, rfl⟩
theorem d_mod_bare_81 : cf_D k_mod_bare 81 (.if_icmp .eq 15) 3 84 := ⟨by decide +kernel, rfl⟩
theorem d_mod_bare_84 : cf_D k_mod_bare 84 (.iload_n 0) 1 85 := ⟨by decide +kernel, rfl⟩
theorem d_mod_bare_85 : cf_D k_mod_bare 85 (.bipush 125) 2 87 := ⟨by decide +kernel, rfl⟩
theorem d_mod_bare_87 : cf_D k_mod_bare 87 (.if_icmp .eq 9) 3 90 := ⟨by decide +kernel, rfl⟩
theorem d_mod_bare_90 : cf_D k_mod_bare 90 (.iload_n 0) 1 91 := ⟨by decide +kernel, rfl⟩
theorem d_mod_bare_91 : cf_D k_mod_bare 91 (.bipush 126) 2 93 := ⟨by decide +kernel, rfl⟩
theorem d_mod_bare_93 : cf_D k_mod_bare 93 (.if_icmp .ne 7) 3 96 := ⟨by decide +kernel, rfl⟩
theorem d_mod_bare_96 : cf_D k_mod_bare 96 (.iconst 1) 1 97 := ⟨by decide +kernel, rfl⟩
theorem d_mod_bare_97 : cf_D k_mod_bare 97 (.goto 4) 3 100 := ⟨by decide +kernel, rfl⟩
theorem d_mod_bare_100 : cf_D k_mod_bare 100 (.iconst 0) 1 101 := ⟨by decide +kernel, rfl⟩
theorem d_mod_bare_101 : cf_D k_mod_bare 101 (.ireturn) 1 102 := ⟨by decide +kernel, rfl⟩
theorem d_mod_bracket_0 : cf_D k_mod_bracket 0 (.aload_n 0) 1 1 := ⟨by decide +kernel, rfl⟩
theorem d_mod_bracket_1 : cf_D k_mod_bracket 1 (.iload_n 1) 1 2 := ⟨by decide +kernel, rfl⟩
theorem d_mod_bracket_2 : cf_D k_mod_bracket 2 (.iconst 1) 1 3 := ⟨by decide +kernel, rfl⟩
theorem d_mod_bracket_3 : cf_D k_mod_bracket 3 (.iadd) 1 4 := ⟨by decide +kernel, rfl⟩
theorem d_mod_bracket_4 : cf_D k_mod_bracket 4 (.invokevirtual 51) 3 7 := ⟨by decide +kernel, rfl⟩
theorem d_mod_bracket_7 : cf_D k_mod_bracket 7 (.istore_n 2) 1 8 := ⟨by decide +kernel, rfl⟩
theorem d_mod_bracket_8 : cf_D k_mod_bracket 8 (.iload_n 2) 1 9 := ⟨by decide +kernel, rfl⟩
theorem d_mod_bracket_9 : cf_D k_mod_bracket 9 (.bipush 104) 2 11 := ⟨by decide +kernel, rfl⟩
theorem d_mod_bracket_11 : cf_D k_mod_bracket 11 (.if_icmp .eq 15) 3 14 := ⟨by decide +kernel, rfl⟩
theorem d_mod_bracket_14 : cf_D k_mod_bracket 14 (.iload_n 2) 1 15 := ⟨by decide +kernel, rfl⟩
theorem d_mod_bracket_15 : cf_D k_mod_bracket 15 (.bipush 109) 2 17 := ⟨by decide +kernel, rfl⟩
theorem d_mod_bracket_17 : cf_D k_mod_bracket 17 (.if_icmp .eq 9) 3 20 := ⟨by decide +kernel, rfl⟩
theorem d_mod_bracket_20 : cf_D k_mod_bracket 20 (.iload_n 2) 1 21 := ⟨by decide +kernel, rfl⟩
theorem d_mod_bracket_21 : cf_D k_mod_bracket 21 (.bipush 115) 2 23 := ⟨by decide +kernel, rfl⟩
theorem d_mod_bracket_23 : cf_D k_mod_bracket 23 (.if_icmp .ne 27) 3 26 := ⟨by decide +kernel, rfl⟩
theorem d_mod_bracket_26 : cf_D k_mod_bracket 26 (.aload_n 0) 1 27 := ⟨by decide +kernel, rfl⟩
theorem d_mod_bracket_27 : cf_D k_mod_bracket 27 (.iload_n 1) 1 28 := ⟨by decide +kernel, rfl⟩
theorem d_mod_bracket_28 : cf_D k_mod_bracket 28 (.iconst 2) 1 29 := ⟨by decide +kernel, rfl⟩
theorem d_mod_bracket_29 : cf_D k_mod_bracket 29 (.iadd) 1 30 := ⟨by decide +kernel, rfl⟩
theorem d_mod_bracket_30 : cf_D k_mod_bracket 30 (.invokevirtual 51) 3 33 := ⟨by decide +kernel, rfl⟩
theorem d_mod_bracket_33 : cf_D k_mod_bracket 33 (.bipush 93) 2 35 := ⟨by decide +kernel, rfl⟩
theorem d_mod_bracket_35 : cf_D k_mod_bracket 35 (.if_icmp .ne 15) 3 38 := ⟨by decide +kernel, rfl⟩
theorem d_mod_bracket_38 : cf_D k_mod_bracket 38 (.aload_n 0) 1 39 := ⟨by decide +kernel, rfl⟩
theorem d_mod_bracket_39 : cf_D k_mod_bracket 39 (.bipush 8) 2 41 := ⟨by decide +kernel, rfl⟩
theorem d_mod_bracket_41 : cf_D k_mod_bracket 41 (.iload_n 2) 1 42 := ⟨by decide +kernel, rfl⟩
theorem d_mod_bracket_42 : cf_D k_mod_bracket 42 (.iconst 0) 1 43 := ⟨by decide +kernel, rfl⟩
theorem d_mod_bracket_43 : cf_D k_mod_bracket 43 (.iload_n 1) 1 44 := ⟨by decide +kernel, rfl⟩
theorem d_mod_bracket_44 : cf_D k_mod_bracket 44 (.iconst 3) 1 45 := ⟨by decide +kernel, rfl⟩
theorem d_mod_bracket_45 : cf_D k_mod_bracket 45 (.iadd) 1 46 := ⟨by decide +kernel, rfl⟩
theorem d_mod_bracket_46 : cf_D k_mod_bracket 46 (.invokevirtual 55) 3 49 := ⟨by decide +kernel, rfl⟩
theorem d_mod_bracket_49 : cf_D k_mod_bracket 49 (.return_) 1 50 := ⟨by decide +kernel, rfl⟩
theorem d_mod_bracket_50 : cf_D k_mod_bracket 50 (.aload_n 0) 1 51 := ⟨by decide +kernel, rfl⟩
theorem d_mod_bracket_51 : cf_D k_mod_bracket 51 (.iload_n 1) 1 52 := ⟨by decide +kernel, rfl⟩
theorem d_mod_bracket_52 : cf_D k_mod_bracket 52 (.iconst 1) 1 53 := ⟨by decide +kernel, rfl⟩
theorem d_mod_bracket_53 : cf_D k_mod_bracket 53 (.iadd) 1 54 := ⟨by decide +kernel, rfl⟩
theorem d_mod_bracket_54 : cf_D k_mod_bracket 54 (.invokevirtual 59) 3 57 := ⟨by decide +kernel, rfl⟩
theorem d_mod_bracket_57 : cf_D k_mod_bracket 57 (.istore_n 3) 1 58 := ⟨by decide +kernel, rfl⟩
theorem d_mod_bracket_58 : cf_D k_mod_bracket 58 (.iload_n 3) 1 59 := ⟨by decide +kernel, rfl⟩
theorem d_mod_bracket_59 : cf_D k_mod_bracket 59 (.ifCond .ne 4) 3 62 := ⟨by decide +kernel, rfl⟩
theorem d_mod_bracket_62 : cf_D k_mod_bracket 62 (.return_) 1 63 := ⟨by decide +kernel, rfl⟩
theorem d_mod_bracket_63 : cf_D k_mod_bracket 63 (.iload_n 3) 1 64 := ⟨by decide +kernel, rfl⟩
theorem d_mod_bracket_64 : cf_D k_mod_bracket 64 (.iconst 2) 1 65 := ⟨by decide +kernel, rfl⟩
theorem d_mod_bracket_65 : cf_D k_mod_bracket 65 (.if_icmp .eq 14) 3 68 := ⟨by decide +kernel, rfl⟩
theorem d_mod_bracket_68 : cf_D k_mod_bracket 68 (.iload_n 3) 1 69 := ⟨by decide +kernel, rfl⟩
theorem d_mod_bracket_69 : cf_D k_mod_bracket 69 (.iconst 4) 1 70 := ⟨by decide +kernel, rfl⟩
theorem d_mod_bracket_70 : cf_D k_mod_bracket 70 (.if_icmp .eq 9) 3 73 := ⟨by decide +kernel, rfl⟩
theorem d_mod_bracket_73 : cf_D k_mod_bracket 73 (.iload_n 3) 1 74 := ⟨by decide +kernel, rfl⟩
theorem d_mod_bracket_74 : cf_D k_mod_bracket 74 (.bipush 6) 2 76 := ⟨by decide +kernel, rfl⟩
theorem d_mod_bracket_76 : cf_D k_mod_bracket 76 (.if_icmp .ne 9) 3 79 := ⟨by decide +kernel, rfl⟩
theorem d_mod_bracket_79 : cf_D k_mod_bracket 79 (.iload_n 1) 1 80 := ⟨by decide +kernel, rfl⟩
theorem d_mod_bracket_80 : cf_D k_mod_bracket 80 (.iconst 3) 1 81 := ⟨by decide +kernel, rfl⟩
theorem d_mod_bracket_81 : cf_D k_mod_bracket 81 (.iadd) 1 82 := ⟨by decide +kernel, rfl⟩
theorem d_mod_bracket_82 : cf_D k_mod_bracket 82 (.goto 6) 3 85 := ⟨by decide +kernel, rfl⟩
theorem d_mod_bracket_85 : cf_D k_mod_bracket 85 (.iload_n 1) 1 86 := ⟨by decide +kernel, rfl⟩
theorem d_mod_bracket_86 : cf_D k_mod_bracket 86 (.iconst 2) 1 87 := ⟨by decide +kernel, rfl⟩
theorem d_mod_bracket_87 : cf_D k_mod_bracket 87 (.iadd) 1 88 := ⟨by decide +kernel, rfl⟩
theorem d_mod_bracket_88 : cf_D k_mod_bracket 88 (.istore 4) 2 90 := ⟨by decide +kernel, rfl⟩
theorem d_mod_bracket_90 : cf_D k_mod_bracket 90 (.aload_n 0) 1 91 := ⟨by decide +kernel, rfl⟩
theorem d_mod_bracket_91 : cf_D k_mod_bracket 91 (.iload 4) 2 93 := ⟨by decide +kernel, rfl⟩
theorem d_mod_bracket_93 : cf_D k_mod_bracket 93 (.invokevirtual 51) 3 96 := ⟨by decide +kernel, rfl⟩
theorem d_mod_bracket_96 : cf_D k_mod_bracket 96 (.bipush 45) 2 98 := ⟨by decide +kernel, rfl⟩
theorem d_mod_bracket_98 : cf_D k_mod_bracket 98 (.if_icmp .ne 7) 3 101 := ⟨by decide +kernel, rfl⟩
theorem d_mod_bracket_101 : cf_D k_mod_bracket 101 (.iconst 1) 1 102 := ⟨by decide +kernel, rfl⟩
theorem d_mod_bracket_102 : cf_D k_mod_bracket 102 (.goto 4) 3 105 := ⟨by decide +kernel, rfl⟩
theorem d_mod_bracket_105 : cf_D k_mod_bracket 105 (.iconst 0) 1 106 := ⟨by decide +kernel, rfl⟩
theorem d_mod_bracket_106 : cf_D k_mod_bracket 106 (.istore 5) 2 108 := ⟨by decide +kernel, rfl⟩
theorem d_mod_bracket_108 : cf_D k_mod_bracket 108 (.iload 5) 2 110 := ⟨by decide +kernel, rfl⟩
theorem d_mod_bracket_110 : cf_D k_mod_bracket 110 (.ifCond .eq 10) 3 113 := ⟨by decide +kernel, rfl⟩
theorem d_mod_bracket_113 : cf_D k_mod_bracket 113 (.iload 4) 2 115 := ⟨by decide +kernel, rfl⟩
theorem d_mod_bracket_115 : cf_D k_mod_bracket 115 (.iconst 1) 1 116 := ⟨by decide +kernel, rfl⟩
theorem d_mod_bracket_116 : cf_D k_mod_bracket 116 (.iadd) 1 117 := ⟨by decide +kernel, rfl⟩
theorem d_mod_bracket_117 : cf_D k_mod_bracket 117 (.goto 5) 3 120 := ⟨by decide +kernel, rfl⟩
theorem d_mod_bracket_120 : cf_D k_mod_bracket 120 (.iload 4) 2 122 := ⟨by decide +kernel, rfl⟩
theorem d_mod_bracket_122 : cf_D k_mod_bracket 122 (.istore 4) 2 124 := ⟨by decide +kernel, rfl⟩
theorem d_mod_bracket_124 : cf_D k_mod_bracket 124 (.iconst 0) 1 125 := ⟨by decide +kernel, rfl⟩
theorem d_mod_bracket_125 : cf_D k_mod_bracket 125 (.istore 6) 2 127 := ⟨by decide +kernel, rfl⟩
theorem d_mod_bracket_127 : cf_D k_mod_bracket 127 (.iconst 0) 1 128 := ⟨by decide +kernel, rfl⟩
theorem d_mod_bracket_128 : cf_D k_mod_bracket 128 (.istore 7) 2 130 := ⟨by decide +kernel, rfl⟩
theorem d_mod_bracket_130 : cf_D k_mod_bracket 130 (.aload_n 0) 1 131 := ⟨by decide +kernel, rfl⟩
theorem d_mod_bracket_131 : cf_D k_mod_bracket 131 (.iload 4) 2 133 := ⟨by decide +kernel, rfl⟩
theorem d_mod_bracket_133 : cf_D k_mod_bracket 133 (.invokevirtual 51) 3 136 := ⟨by decide +kernel, rfl⟩
theorem d_mod_bracket_136 : cf_D k_mod_bracket 136 (.invokestatic 62) 3 139 := ⟨by decide +kernel, rfl⟩
theorem d_mod_bracket_139 : cf_D k_mod_bracket 139 (.ifCond .eq 36) 3 142 := ⟨by decide +kernel, rfl⟩
theorem d_mod_bracket_142 : cf_D k_mod_bracket 142 (.iload 7) 2 144 := ⟨by decide +kernel, rfl⟩
theorem d_mod_bracket_144 : cf_D k_mod_bracket 144 (.bipush 7) 2 146 := ⟨by decide +kernel, rfl⟩
theorem d_mod_bracket_146 : cf_D k_mod_bracket 146 (.if_icmp .ge 29) 3 149 := ⟨by decide +kernel, rfl⟩
theorem d_mod_bracket_149 : cf_D k_mod_bracket 149 (.bipush 10) 2 151 := ⟨by decide +kernel, rfl⟩
theorem d_mod_bracket_151 : cf_D k_mod_bracket 151 (.iload 6) 2 153 := ⟨by decide +kernel, rfl⟩
theorem d_mod_bracket_153 : cf_D k_mod_bracket 153 (.imul) 1 154 := ⟨by decide +kernel, rfl⟩
theorem d_mod_bracket_154 : cf_D k_mod_bracket 154 (.aload_n 0) 1 155 := ⟨by decide +kernel, rfl⟩
theorem d_mod_bracket_155 : cf_D k_mod_bracket 155 (.iload 4) 2 157 := ⟨by decide +kernel, rfl⟩
theorem d_mod_bracket_157 : cf_D k_mod_bracket 157 (.invokevirtual 51) 3 160 := ⟨by decide +kernel, rfl⟩
theorem d_mod_bracket_160 : cf_D k_mod_bracket 160 (.iadd) 1 161 := ⟨by decide +kernel, rfl⟩
theorem d_mod_bracket_161 : cf_D k_mod_bracket 161 (.bipush 48) 2 163 := ⟨by decide +kernel, rfl⟩
theorem d_mod_bracket_163 : cf_D k_mod_bracket 163 (.isub) 1 164 := ⟨by decide +kernel, rfl⟩
theorem d_mod_bracket_164 : cf_D k_mod_bracket 164 (.istore 6) 2 166 := ⟨by decide +kernel, rfl⟩
theorem d_mod_bracket_166 : cf_D k_mod_bracket 166 (.iinc 4 1) 3 169 := ⟨by decide +kernel, rfl⟩
theorem d_mod_bracket_169 : cf_D k_mod_bracket 169 (.iinc 7 1) 3 172 := ⟨by decide +kernel, rfl⟩
theorem d_mod_bracket_172 : cf_D k_mod_bracket 172 (.goto (-42)) 3 175 := ⟨by decide +kernel, rfl⟩
theorem d_mod_bracket_175 : cf_D k_mod_bracket 175 (.iload 7) 2 177 := ⟨by decide +kernel, rfl⟩
theorem d_mod_bracket_177 : cf_D k_mod_bracket 177 (.iconst 1) 1 178 := ⟨by decide +kernel, rfl⟩
theorem d_mod_bracket_178 : cf_D k_mod_bracket 178 (.if_icmp .lt 45) 3 181 := ⟨by decide +kernel, rfl⟩
theorem d_mod_bracket_181 : cf_D k_mod_bracket 181 (.iload 7) 2 183 := ⟨by decide +kernel, rfl⟩
theorem d_mod_bracket_183 : cf_D k_mod_bracket 183 (.bipush 6) 2 185 := ⟨by decide +kernel, rfl⟩
theorem d_mod_bracket_185 : cf_D k_mod_bracket 185 (.if_icmp .gt 38) 3 188 := ⟨by decide +kernel, rfl⟩
theorem d_mod_bracket_188 : cf_D k_mod_bracket 188 (.aload_n 0) 1 189 := ⟨by decide +kernel, rfl⟩
theorem d_mod_bracket_189 : cf_D k_mod_bracket 189 (.iload 4) 2 191 := ⟨by decide +kernel, rfl⟩
theorem d_mod_bracket_191 : cf_D k_mod_bracket 191 (.invokevirtual 51) 3 194 := ⟨by decide +kernel, rfl⟩
theorem d_mod_bracket_194 : cf_D k_mod_bracket 194 (.bipush 93) 2 196 := ⟨by decide +kernel, rfl⟩
theorem d_mod_bracket_196 : cf_D k_mod_bracket 196 (.if_icmp .ne 27) 3 199 := ⟨by decide +kernel, rfl⟩
theorem d_mod_bracket_199 : cf_D k_mod_bracket 199 (.aload_n 0) 1 200 := ⟨by decide +kernel, rfl⟩
theorem d_mod_bracket_200 : cf_D k_mod_bracket 200 (.bipush 7) 2 202 := ⟨by decide +kernel, rfl⟩
theorem d_mod_bracket_202 : cf_D k_mod_bracket 202 (.iload_n 3) 1 203 := ⟨by decide +kernel, rfl⟩
theorem d_mod_bracket_203 : cf_D k_mod_bracket 203 (.iload 5) 2 205 := ⟨by decide +kernel, rfl⟩
theorem d_mod_bracket_205 : cf_D k_mod_bracket 205 (.ifCond .eq 9) 3 208 := ⟨by decide +kernel, rfl⟩
theorem d_mod_bracket_208 : cf_D k_mod_bracket 208 (.iload 6) 2 210 := ⟨by decide +kernel, rfl⟩
theorem d_mod_bracket_210 : cf_D k_mod_bracket 210 (.ineg) 1 211 := ⟨by decide +kernel, rfl⟩
theorem d_mod_bracket_211 : cf_D k_mod_bracket 211 (.goto 5) 3 214 := ⟨by decide +kernel, rfl⟩
theorem d_mod_bracket_214 : cf_D k_mod_bracket 214 (.iload 6) 2 216 := ⟨by decide +kernel, rfl⟩
theorem d_mod_bracket_216 : cf_D k_mod_bracket 216 (.iload 4) 2 218 := ⟨by decide +kernel, rfl⟩
theorem d_mod_bracket_218 : cf_D k_mod_bracket 218 (.iconst 1) 1 219 := ⟨by decide +kernel, rfl⟩
theorem d_mod_bracket_219 : cf_D k_mod_bracket 219 (.iadd) 1 220 := ⟨by decide +kernel, rfl⟩
theorem d_mod_bracket_220 : cf_D k_mod_bracket 220 (.invokevirtual 55) 3 223 := ⟨by decide +kernel, rfl⟩
theorem d_mod_bracket_223 : cf_D k_mod_bracket 223 (.return_) 1 224 := ⟨by decide +kernel, rfl⟩
theorem d_mod_comparison_0 : cf_D k_mod_comparison 0 (.aload_n 0) 1 1 := ⟨by decide +kernel, rfl⟩
theorem d_mod_comparison_1 : cf_D k_mod_comparison 1 (.iload_n 1) 1 2 := ⟨by decide +kernel, rfl⟩
theorem d_mod_comparison_2 : cf_D k_mod_comparison 2 (.invokevirtual 51) 3 5 := ⟨by decide +kernel, rfl⟩
theorem d_mod_comparison_5 : cf_D k_mod_comparison 5 (.istore_n 2) 1 6 := ⟨by decide +kernel, rfl⟩
theorem d_mod_comparison_6 : cf_D k_mod_comparison 6 (.aload_n 0) 1 7 := ⟨by decide +kernel, rfl⟩
theorem d_mod_comparison_7 : cf_D k_mod_comparison 7 (.iload_n 1) 1 8 := ⟨by decide +kernel, rfl⟩
theorem d_mod_comparison_8 : cf_D k_mod_comparison 8 (.iconst 1) 1 9 := ⟨by decide +kernel, rfl⟩
theorem d_mod_comparison_9 : cf_D k_mod_comparison 9 (.iadd) 1 10 := ⟨by decide +kernel, rfl⟩
theorem d_mod_comparison_10 : cf_D k_mod_comparison 10 (.invokevirtual 51) 3 13 := ⟨by decide +kernel, rfl⟩
theorem d_mod_comparison_13 : cf_D k_mod_comparison 13 (.istore_n 3) 1 14 := ⟨by decide +kernel, rfl⟩
theorem d_mod_comparison_14 : cf_D k_mod_comparison 14 (.iload_n 2) 1 15 := ⟨by decide +kernel, rfl⟩
theorem d_mod_comparison_15 : cf_D k_mod_comparison 15 (.bipush 60) 2 17 := ⟨by decide +kernel, rfl⟩
theorem d_mod_comparison_17 : cf_D k_mod_comparison 17 (.if_icmp .ne 26) 3 20 := ⟨by decide +kernel, rfl⟩
theorem d_mod_comparison_20 : cf_D k_mod_comparison 20 (.iload_n 3) 1 21 := ⟨by decide +kernel, rfl⟩
theorem d_mod_comparison_21 : cf_D k_mod_comparison 21 (.bipush 61) 2 23 := ⟨by decide +kernel, rfl⟩
theorem d_mod_comparison_23 : cf_D k_mod_comparison 23 (.if_icmp .ne 7) 3 26 := ⟨by decide +kernel, rfl⟩
theorem d_mod_comparison_26 : cf_D k_mod_comparison 26 (.iconst 2) 1 27 := ⟨by decide +kernel, rfl⟩
theorem d_mod_comparison_27 : cf_D k_mod_comparison 27 (.goto 15) 3 30 := ⟨by decide +kernel, rfl⟩
theorem d_mod_comparison_30 : cf_D k_mod_comparison 30 (.iload_n 3) 1 31 := ⟨by decide +kernel, rfl⟩
theorem d_mod_comparison_31 : cf_D k_mod_comparison 31 (.bipush 62) 2 33 := ⟨by decide +kernel, rfl⟩
theorem d_mod_comparison_33 : cf_D k_mod_comparison 33 (.if_icmp .ne 8) 3 36 := ⟨by decide +kernel, rfl⟩
theorem d_mod_comparison_36 : cf_D k_mod_comparison 36 (.bipush 6) 2 38 := ⟨by decide +kernel, rfl⟩
theorem d_mod_comparison_38 : cf_D k_mod_comparison 38 (.goto 4) 3 41 := ⟨by decide +kernel, rfl⟩
theorem d_mod_comparison_41 : cf_D k_mod_comparison 41 (.iconst 1) 1 42 := ⟨by decide +kernel, rfl⟩
theorem d_mod_comparison_42 : cf_D k_mod_comparison 42 (.ireturn) 1 43 := ⟨by decide +kernel, rfl⟩
theorem d_mod_comparison_43 : cf_D k_mod_comparison 43 (.iload_n 2) 1 44 := ⟨by decide +kernel, rfl⟩
theorem d_mod_comparison_44 : cf_D k_mod_comparison 44 (.bipush 62) 2 46 := ⟨by decide +kernel, rfl⟩
theorem d_mod_comparison_46 : cf_D k_mod_comparison 46 (.if_icmp .ne 15) 3 49 := ⟨by decide +kernel, rfl⟩
theorem d_mod_comparison_49 : cf_D k_mod_comparison 49 (.iload_n 3) 1 50 := ⟨by decide +kernel, rfl⟩
theorem d_mod_comparison_50 : cf_D k_mod_comparison 50 (.bipush 61) 2 52 := ⟨by decide +kernel, rfl⟩
theorem d_mod_comparison_52 : cf_D k_mod_comparison 52 (.if_icmp .ne 7) 3 55 := ⟨by decide +kernel, rfl⟩
theorem d_mod_comparison_55 : cf_D k_mod_comparison 55 (.iconst 4) 1 56 := ⟨by decide +kernel, rfl⟩
theorem d_mod_comparison_56 : cf_D k_mod_comparison 56 (.goto 4) 3 59 := ⟨by decide +kernel, rfl⟩
theorem d_mod_comparison_59 : cf_D k_mod_comparison 59 (.iconst 3) 1 60 := ⟨by decide +kernel, rfl⟩
theorem d_mod_comparison_60 : cf_D k_mod_comparison 60 (.ireturn) 1 61 := ⟨by decide +kernel, rfl⟩
theorem d_mod_comparison_61 : cf_D k_mod_comparison 61 (.iload_n 2) 1 62 := ⟨by decide +kernel, rfl⟩
theorem d_mod_comparison_62 : cf_D k_mod_comparison 62 (.bipush 61) 2 64 := ⟨by decide +kernel, rfl⟩
theorem d_mod_comparison_64 : cf_D k_mod_comparison 64 (.if_icmp .ne 7) 3 67 := ⟨by decide +kernel, rfl⟩
theorem d_mod_comparison_67 : cf_D k_mod_comparison 67 (.iconst 5) 1 68 := ⟨by decide +kernel, rfl⟩
theorem d_mod_comparison_68 : cf_D k_mod_comparison 68 (.goto 4) 3 71 := ⟨by decide +kernel, rfl⟩
theorem d_mod_comparison_71 : cf_D k_mod_comparison 71 (.iconst 0) 1 72 := ⟨by decide +kernel, rfl⟩
theorem d_mod_comparison_72 : cf_D k_mod_comparison 72 (.ireturn) 1 73 := ⟨by decide +kernel, rfl⟩
theorem d_mod_digit_0 : cf_D k_mod_digit 0 (.iload_n 0) 1 1 := ⟨by decide +kernel, rfl⟩
theorem d_mod_digit_1 : cf_D k_mod_digit 1 (.bipush 48) 2 3 := ⟨by decide +kernel, rfl⟩
theorem d_mod_digit_3 : cf_D k_mod_digit 3 (.if_icmp .lt 13) 3 6 := ⟨by decide +kernel, rfl⟩
theorem d_mod_digit_6 : cf_D k_mod_digit 6 (.iload_n 0) 1 7 := ⟨by decide +kernel, rfl⟩
theorem d_mod_digit_7 : cf_D k_mod_digit 7 (.bipush 57) 2 9 := ⟨by decide +kernel, rfl⟩
theorem d_mod_digit_9 : cf_D k_mod_digit 9 (.if_icmp .gt 7) 3 12 := ⟨by decide +kernel, rfl⟩
theorem d_mod_digit_12 : cf_D k_mod_digit 12 (.iconst 1) 1 13 := ⟨by decide +kernel, rfl⟩
theorem d_mod_digit_13 : cf_D k_mod_digit 13 (.goto 4) 3 16 := ⟨by decide +kernel, rfl⟩
theorem d_mod_digit_16 : cf_D k_mod_digit 16 (.iconst 0) 1 17 := ⟨by decide +kernel, rfl⟩
theorem d_mod_digit_17 : cf_D k_mod_digit 17 (.ireturn) 1 18 := ⟨by decide +kernel, rfl⟩
theorem d_mod_letters_0 : cf_D k_mod_letters 0 (.aload_n 0) 1 1 := ⟨by decide +kernel, rfl⟩
theorem d_mod_letters_1 : cf_D k_mod_letters 1 (.iload_n 1) 1 2 := ⟨by decide +kernel, rfl⟩
theorem d_mod_letters_2 : cf_D k_mod_letters 2 (.invokevirtual 51) 3 5 := ⟨by decide +kernel, rfl⟩
theorem d_mod_letters_5 : cf_D k_mod_letters 5 (.istore_n 2) 1 6 := ⟨by decide +kernel, rfl⟩
theorem d_mod_letters_6 : cf_D k_mod_letters 6 (.iconst 0) 1 7 := ⟨by decide +kernel, rfl⟩
theorem d_mod_letters_7 : cf_D k_mod_letters 7 (.istore_n 3) 1 8 := ⟨by decide +kernel, rfl⟩
theorem d_mod_letters_8 : cf_D k_mod_letters 8 (.aload_n 0) 1 9 := ⟨by decide +kernel, rfl⟩
theorem d_mod_letters_9 : cf_D k_mod_letters 9 (.iload_n 1) 1 10 := ⟨by decide +kernel, rfl⟩
theorem d_mod_letters_10 : cf_D k_mod_letters 10 (.iload_n 3) 1 11 := ⟨by decide +kernel, rfl⟩
theorem d_mod_letters_11 : cf_D k_mod_letters 11 (.iadd) 1 12 := ⟨by decide +kernel, rfl⟩
theorem d_mod_letters_12 : cf_D k_mod_letters 12 (.invokevirtual 51) 3 15 := ⟨by decide +kernel, rfl⟩
theorem d_mod_letters_15 : cf_D k_mod_letters 15 (.iload_n 2) 1 16 := ⟨by decide +kernel, rfl⟩
theorem d_mod_letters_16 : cf_D k_mod_letters 16 (.if_icmp .ne 9) 3 19 := ⟨by decide +kernel, rfl⟩
theorem d_mod_letters_19 : cf_D k_mod_letters 19 (.iinc 3 1) 3 22 := ⟨by decide +kernel, rfl⟩
theorem d_mod_letters_22 : cf_D k_mod_letters 22 (.goto (-14)) 3 25 := ⟨by decide +kernel, rfl⟩
theorem d_mod_letters_25 : cf_D k_mod_letters 25 (.iload_n 2) 1 26 := ⟨by decide +kernel, rfl⟩
theorem d_mod_letters_26 : cf_D k_mod_letters 26 (.bipush 121) 2 28 := ⟨by decide +kernel, rfl⟩
theorem d_mod_letters_28 : cf_D k_mod_letters 28 (.if_icmp .ne 21) 3 31 := ⟨by decide +kernel, rfl⟩
theorem d_mod_letters_31 : cf_D k_mod_letters 31 (.iload_n 3) 1 32 := ⟨by decide +kernel, rfl⟩
theorem d_mod_letters_32 : cf_D k_mod_letters 32 (.iconst 2) 1 33 := ⟨by decide +kernel, rfl⟩
theorem d_mod_letters_33 : cf_D k_mod_letters 33 (.if_icmp .eq 8) 3 36 := ⟨by decide +kernel, rfl⟩
theorem d_mod_letters_36 : cf_D k_mod_letters 36 (.iload_n 3) 1 37 := ⟨by decide +kernel, rfl⟩
theorem d_mod_letters_37 : cf_D k_mod_letters 37 (.iconst 4) 1 38 := ⟨by decide +kernel, rfl⟩
theorem d_mod_letters_38 : cf_D k_mod_letters 38 (.if_icmp .ne 7) 3 41 := ⟨by decide +kernel, rfl⟩
theorem d_mod_letters_41 : cf_D k_mod_letters 41 (.iconst 1) 1 42 := ⟨by decide +kernel, rfl⟩
theorem d_mod_letters_42 : cf_D k_mod_letters 42 (.goto 42) 3 45 := ⟨by decide +kernel, rfl⟩
theorem d_mod_letters_45 : cf_D k_mod_letters 45 (.iconst 0) 1 46 := ⟨by decide +kernel, rfl⟩
theorem d_mod_letters_46 : cf_D k_mod_letters 46 (.goto 38) 3 49 := ⟨by decide +kernel, rfl⟩
theorem d_mod_letters_49 : cf_D k_mod_letters 49 (.iload_n 2) 1 50 := ⟨by decide +kernel, rfl⟩
theorem d_mod_letters_50 : cf_D k_mod_letters 50 (.bipush 109) 2 52 := ⟨by decide +kernel, rfl⟩
theorem d_mod_letters_52 : cf_D k_mod_letters 52 (.if_icmp .eq 9) 3 55 := ⟨by decide +kernel, rfl⟩
theorem d_mod_letters_55 : cf_D k_mod_letters 55 (.iload_n 2) 1 56 := ⟨by decide +kernel, rfl⟩
theorem d_mod_letters_56 : cf_D k_mod_letters 56 (.bipush 100) 2 58 := ⟨by decide +kernel, rfl⟩
theorem d_mod_letters_58 : cf_D k_mod_letters 58 (.if_icmp .ne 16) 3 61 := ⟨by decide +kernel, rfl⟩
theorem d_mod_letters_61 : cf_D k_mod_letters 61 (.iload_n 3) 1 62 := ⟨by decide +kernel, rfl⟩
theorem d_mod_letters_62 : cf_D k_mod_letters 62 (.iconst 3) 1 63 := ⟨by decide +kernel, rfl⟩
theorem d_mod_letters_63 : cf_D k_mod_letters 63 (.if_icmp .gt 7) 3 66 := ⟨by decide +kernel, rfl⟩
theorem d_mod_letters_66 : cf_D k_mod_letters 66 (.iconst 1) 1 67 := ⟨by decide +kernel, rfl⟩
theorem d_mod_letters_67 : cf_D k_mod_letters 67 (.goto 17) 3 70 := ⟨by decide +kernel, rfl⟩
theorem d_mod_letters_70 : cf_D k_mod_letters 70 (.iconst 0) 1 71 := ⟨by decide +kernel, rfl⟩
theorem d_mod_letters_71 : cf_D k_mod_letters 71 (.goto 13) 3 74 := ⟨by decide +kernel, rfl⟩
theorem d_mod_letters_74 : cf_D k_mod_letters 74 (.iload_n 3) 1 75 := ⟨by decide +kernel, rfl⟩
theorem d_mod_letters_75 : cf_D k_mod_letters 75 (.iconst 2) 1 76 := ⟨by decide +kernel, rfl⟩
theorem d_mod_letters_76 : cf_D k_mod_letters 76 (.if_icmp .gt 7) 3 79 := ⟨by decide +kernel, rfl⟩
theorem d_mod_letters_79 : cf_D k_mod_letters 79 (.iconst 1) 1 80 := ⟨by decide +kernel, rfl⟩
theorem d_mod_letters_80 : cf_D k_mod_letters 80 (.goto 4) 3 83 := ⟨by decide +kernel, rfl⟩
theorem d_mod_letters_83 : cf_D k_mod_letters 83 (.iconst 0) 1 84 := ⟨by decide +kernel, rfl⟩
theorem d_mod_letters_84 : cf_D k_mod_letters 84 (.istore 4) 2 86 := ⟨by decide +kernel, rfl⟩
theorem d_mod_letters_86 : cf_D k_mod_letters 86 (.iload 4) 2 88 := ⟨by decide +kernel, rfl⟩
theorem d_mod_letters_88 : cf_D k_mod_letters 88 (.ifCond .eq 14) 3 91 := ⟨by decide +kernel, rfl⟩
theorem d_mod_letters_91 : cf_D k_mod_letters 91 (.aload_n 0) 1 92 := ⟨by decide +kernel, rfl⟩
theorem d_mod_letters_92 : cf_D k_mod_letters 92 (.bipush 9) 2 94 := ⟨by decide +kernel, rfl⟩
theorem d_mod_letters_94 : cf_D k_mod_letters 94 (.iload_n 2) 1 95 := ⟨by decide +kernel, rfl⟩
theorem d_mod_letters_95 : cf_D k_mod_letters 95 (.iload_n 3) 1 96 := ⟨by decide +kernel, rfl⟩
theorem d_mod_letters_96 : cf_D k_mod_letters 96 (.iload_n 1) 1 97 := ⟨by decide +kernel, rfl⟩
theorem d_mod_letters_97 : cf_D k_mod_letters 97 (.iload_n 3) 1 98 := ⟨by decide +kernel, rfl⟩
theorem d_mod_letters_98 : cf_D k_mod_letters 98 (.iadd) 1 99 := ⟨by decide +kernel, rfl⟩
theorem d_mod_letters_99 : cf_D k_mod_letters 99 (.invokevirtual 55) 3 102 := ⟨by decide +kernel, rfl⟩
theorem d_mod_letters_102 : cf_D k_mod_letters 102 (.return_) 1 103 := ⟨by decide +kernel, rfl⟩
theorem d_mod_wellMade_0 : cf_D k_mod_wellMade 0 (.aload_n 0) 1 1 := ⟨by decide +kernel, rfl⟩
theorem d_mod_wellMade_1 : cf_D k_mod_wellMade 1 (.getfield 25) 3 4 := ⟨by decide +kernel, rfl⟩
theorem d_mod_wellMade_4 : cf_D k_mod_wellMade 4 (.iload_n 1) 1 5 := ⟨by decide +kernel, rfl⟩
theorem d_mod_wellMade_5 : cf_D k_mod_wellMade 5 (.iaload) 1 6 := ⟨by decide +kernel, rfl⟩
theorem d_mod_wellMade_6 : cf_D k_mod_wellMade 6 (.istore_n 2) 1 7 := ⟨by decide +kernel, rfl⟩
theorem d_mod_wellMade_7 : cf_D k_mod_wellMade 7 (.aload_n 0) 1 8 := ⟨by decide +kernel, rfl⟩
theorem d_mod_wellMade_8 : cf_D k_mod_wellMade 8 (.getfield 25) 3 11 := ⟨by decide +kernel, rfl⟩
theorem d_mod_wellMade_11 : cf_D k_mod_wellMade 11 (.iload_n 1) 1 12 := ⟨by decide +kernel, rfl⟩
theorem d_mod_wellMade_12 : cf_D k_mod_wellMade 12 (.iconst 1) 1 13 := ⟨by decide +kernel, rfl⟩
theorem d_mod_wellMade_13 : cf_D k_mod_wellMade 13 (.iadd) 1 14 := ⟨by decide +kernel, rfl⟩
theorem d_mod_wellMade_14 : cf_D k_mod_wellMade 14 (.iaload) 1 15 := ⟨by decide +kernel, rfl⟩
theorem d_mod_wellMade_15 : cf_D k_mod_wellMade 15 (.istore_n 3) 1 16 := ⟨by decide +kernel, rfl⟩
theorem d_mod_wellMade_16 : cf_D k_mod_wellMade 16 (.aload_n 0) 1 17 := ⟨by decide +kernel, rfl⟩
theorem d_mod_wellMade_17 : cf_D k_mod_wellMade 17 (.iload_n 2) 1 18 := ⟨by decide +kernel, rfl⟩
theorem d_mod_wellMade_18 : cf_D k_mod_wellMade 18 (.iload_n 3) 1 19 := ⟨by decide +kernel, rfl⟩
theorem d_mod_wellMade_19 : cf_D k_mod_wellMade 19 (.bipush 7) 2 21 := ⟨by decide +kernel, rfl⟩
theorem d_mod_wellMade_21 : cf_D k_mod_wellMade 21 (.invokevirtual 91) 3 24 := ⟨by decide +kernel, rfl⟩
theorem d_mod_wellMade_24 : cf_D k_mod_wellMade 24 (.istore 4) 2 26 := ⟨by decide +kernel, rfl⟩
theorem d_mod_wellMade_26 : cf_D k_mod_wellMade 26 (.iload 4) 2 28 := ⟨by decide +kernel, rfl⟩
theorem d_mod_wellMade_28 : cf_D k_mod_wellMade 28 (.iconst 1) 1 29 := ⟨by decide +kernel, rfl⟩
theorem d_mod_wellMade_29 : cf_D k_mod_wellMade 29 (.if_icmp .gt 20) 3 32 := ⟨by decide +kernel, rfl⟩
theorem d_mod_wellMade_32 : cf_D k_mod_wellMade 32 (.iload 4) 2 34 := ⟨by decide +kernel, rfl⟩
theorem d_mod_wellMade_34 : cf_D k_mod_wellMade 34 (.iconst 1) 1 35 := ⟨by decide +kernel, rfl⟩
theorem d_mod_wellMade_35 : cf_D k_mod_wellMade 35 (.if_icmp .ne 16) 3 38 := ⟨by decide +kernel, rfl⟩
theorem d_mod_wellMade_38 : cf_D k_mod_wellMade 38 (.aload_n 0) 1 39 := ⟨by decide +kernel, rfl⟩
theorem d_mod_wellMade_39 : cf_D k_mod_wellMade 39 (.getfield 16) 3 42 := ⟨by decide +kernel, rfl⟩
theorem d_mod_wellMade_42 : cf_D k_mod_wellMade 42 (.iload_n 2) 1 43 := ⟨by decide +kernel, rfl⟩
theorem d_mod_wellMade_43 : cf_D k_mod_wellMade 43 (.iaload) 1 44 := ⟨by decide +kernel, rfl⟩
theorem d_mod_wellMade_44 : cf_D k_mod_wellMade 44 (.bipush 7) 2 46 := ⟨by decide +kernel, rfl⟩
theorem d_mod_wellMade_46 : cf_D k_mod_wellMade 46 (.if_icmp .eq 5) 3 49 := ⟨by decide +kernel, rfl⟩
theorem d_mod_wellMade_49 : cf_D k_mod_wellMade 49 (.iconst 0) 1 50 := ⟨by decide +kernel, rfl⟩
theorem d_mod_wellMade_50 : cf_D k_mod_wellMade 50 (.ireturn) 1 51 := ⟨by decide +kernel, rfl⟩
theorem d_mod_wellMade_51 : cf_D k_mod_wellMade 51 (.aload_n 0) 1 52 := ⟨by decide +kernel, rfl⟩
theorem d_mod_wellMade_52 : cf_D k_mod_wellMade 52 (.iload_n 2) 1 53 := ⟨by decide +kernel, rfl⟩
theorem d_mod_wellMade_53 : cf_D k_mod_wellMade 53 (.iload_n 3) 1 54 := ⟨by decide +kernel, rfl⟩
theorem d_mod_wellMade_54 : cf_D k_mod_wellMade 54 (.iconst 3) 1 55 := ⟨by decide +kernel, rfl⟩
theorem d_mod_wellMade_55 : cf_D k_mod_wellMade 55 (.invokevirtual 91) 3 58 := ⟨by decide +kernel, rfl⟩
theorem d_mod_wellMade_58 : cf_D k_mod_wellMade 58 (.istore 5) 2 60 := ⟨by decide +kernel, rfl⟩
theorem d_mod_wellMade_60 : cf_D k_mod_wellMade 60 (.aload_n 0) 1 61 := ⟨by decide +kernel, rfl⟩
theorem d_mod_wellMade_61 : cf_D k_mod_wellMade 61 (.iload_n 2) 1 62 := ⟨by decide +kernel, rfl⟩
theorem d_mod_wellMade_62 : cf_D k_mod_wellMade 62 (.iload_n 3) 1 63 := ⟨by decide +kernel, rfl⟩
theorem d_mod_wellMade_63 : cf_D k_mod_wellMade 63 (.iconst 4) 1 64 := ⟨by decide +kernel, rfl⟩
theorem d_mod_wellMade_64 : cf_D k_mod_wellMade 64 (.invokevirtual 91) 3 67 := ⟨by decide +kernel, rfl⟩
theorem d_mod_wellMade_67 : cf_D k_mod_wellMade 67 (.istore 6) 2 69 := ⟨by decide +kernel, rfl⟩
theorem d_mod_wellMade_69 : cf_D k_mod_wellMade 69 (.aload_n 0) 1 70 := ⟨by decide +kernel, rfl⟩
theorem d_mod_wellMade_70 : cf_D k_mod_wellMade 70 (.iload_n 2) 1 71 := ⟨by decide +kernel, rfl⟩
theorem d_mod_wellMade_71 : cf_D k_mod_wellMade 71 (.iload_n 3) 1 72 := ⟨by decide +kernel, rfl⟩
theorem d_mod_wellMade_72 : cf_D k_mod_wellMade 72 (.iconst 5) 1 73 := ⟨by decide +kernel, rfl⟩
theorem d_mod_wellMade_73 : cf_D k_mod_wellMade 73 (.invokevirtual 91) 3 76 := ⟨by decide +kernel, rfl⟩
theorem d_mod_wellMade_76 : cf_D k_mod_wellMade 76 (.istore 7) 2 78 := ⟨by decide +kernel, rfl⟩
theorem d_mod_wellMade_78 : cf_D k_mod_wellMade 78 (.aload_n 0) 1 79 := ⟨by decide +kernel, rfl⟩
theorem d_mod_wellMade_79 : cf_D k_mod_wellMade 79 (.iload_n 2) 1 80 := ⟨by decide +kernel, rfl⟩
theorem d_mod_wellMade_80 : cf_D k_mod_wellMade 80 (.iload_n 3) 1 81 := ⟨by decide +kernel, rfl⟩
theorem d_mod_wellMade_81 : cf_D k_mod_wellMade 81 (.bipush 6) 2 83 := ⟨by decide +kernel, rfl⟩
theorem d_mod_wellMade_83 : cf_D k_mod_wellMade 83 (.invokevirtual 91) 3 86 := ⟨by decide +kernel, rfl⟩
theorem d_mod_wellMade_86 : cf_D k_mod_wellMade 86 (.istore 8) 2 88 := ⟨by decide +kernel, rfl⟩
theorem d_mod_wellMade_88 : cf_D k_mod_wellMade 88 (.aload_n 0) 1 89 := ⟨by decide +kernel, rfl⟩
theorem d_mod_wellMade_89 : cf_D k_mod_wellMade 89 (.iload_n 1) 1 90 := ⟨by decide +kernel, rfl⟩
theorem d_mod_wellMade_90 : cf_D k_mod_wellMade 90 (.invokevirtual 102) 3 93 := ⟨by decide +kernel, rfl⟩
theorem d_mod_wellMade_93 : cf_D k_mod_wellMade 93 (.istore 9) 2 95 := ⟨by decide +kernel, rfl⟩
theorem d_mod_wellMade_95 : cf_D k_mod_wellMade 95 (.iload 9) 2 97 := ⟨by decide +kernel, rfl⟩
theorem d_mod_wellMade_97 : cf_D k_mod_wellMade 97 (.iconst 2) 1 98 := ⟨by decide +kernel, rfl⟩
theorem d_mod_wellMade_98 : cf_D k_mod_wellMade 98 (.if_icmp .ne 31) 3 101 := ⟨by decide +kernel, rfl⟩
theorem d_mod_wellMade_101 : cf_D k_mod_wellMade 101 (.aload_n 0) 1 102 := ⟨by decide +kernel, rfl⟩
theorem d_mod_wellMade_102 : cf_D k_mod_wellMade 102 (.iload_n 2) 1 103 := ⟨by decide +kernel, rfl⟩
theorem d_mod_wellMade_103 : cf_D k_mod_wellMade 103 (.iload_n 3) 1 104 := ⟨by decide +kernel, rfl⟩
theorem d_mod_wellMade_104 : cf_D k_mod_wellMade 104 (.iconst 2) 1 105 := ⟨by decide +kernel, rfl⟩
theorem d_mod_wellMade_105 : cf_D k_mod_wellMade 105 (.invokevirtual 91) 3 108 := ⟨by decide +kernel, rfl⟩
theorem d_mod_wellMade_108 : cf_D k_mod_wellMade 108 (.iload 5) 2 110 := ⟨by decide +kernel, rfl⟩
theorem d_mod_wellMade_110 : cf_D k_mod_wellMade 110 (.iadd) 1 111 := ⟨by decide +kernel, rfl⟩
theorem d_mod_wellMade_111 : cf_D k_mod_wellMade 111 (.iload 6) 2 113 := ⟨by decide +kernel, rfl⟩
theorem d_mod_wellMade_113 : cf_D k_mod_wellMade 113 (.iadd) 1 114 := ⟨by decide +kernel, rfl⟩
theorem d_mod_wellMade_114 : cf_D k_mod_wellMade 114 (.iload 7) 2 116 := ⟨by decide +kernel, rfl⟩
theorem d_mod_wellMade_116 : cf_D k_mod_wellMade 116 (.iadd) 1 117 := ⟨by decide +kernel, rfl⟩
theorem d_mod_wellMade_117 : cf_D k_mod_wellMade 117 (.iload 8) 2 119 := ⟨by decide +kernel, rfl⟩
theorem d_mod_wellMade_119 : cf_D k_mod_wellMade 119 (.iadd) 1 120 := ⟨by decide +kernel, rfl⟩
theorem d_mod_wellMade_120 : cf_D k_mod_wellMade 120 (.ifCond .ne 7) 3 123 := ⟨by decide +kernel, rfl⟩
theorem d_mod_wellMade_123 : cf_D k_mod_wellMade 123 (.iconst 1) 1 124 := ⟨by decide +kernel, rfl⟩
theorem d_mod_wellMade_124 : cf_D k_mod_wellMade 124 (.goto 4) 3 127 := ⟨by decide +kernel, rfl⟩
theorem d_mod_wellMade_127 : cf_D k_mod_wellMade 127 (.iconst 0) 1 128 := ⟨by decide +kernel, rfl⟩
theorem d_mod_wellMade_128 : cf_D k_mod_wellMade 128 (.ireturn) 1 129 := ⟨by decide +kernel, rfl⟩
theorem d_mod_wellMade_129 : cf_D k_mod_wellMade 129 (.iload 9) 2 131 := ⟨by decide +kernel, rfl⟩
theorem d_mod_wellMade_131 : cf_D k_mod_wellMade 131 (.ifCond .ne 23) 3 134 := ⟨by decide +kernel, rfl⟩
theorem d_mod_wellMade_134 : cf_D k_mod_wellMade 134 (.iload 5) 2 136 := ⟨by decide +kernel, rfl⟩
theorem d_mod_wellMade_136 : cf_D k_mod_wellMade 136 (.iload 6) 2 138 := ⟨by decide +kernel, rfl⟩
theorem d_mod_wellMade_138 : cf_D k_mod_wellMade 138 (.iadd) 1 139 := ⟨by decide +kernel, rfl⟩
theorem d_mod_wellMade_139 : cf_D k_mod_wellMade 139 (.iload 7) 2 141 := ⟨by decide +kernel, rfl⟩
theorem d_mod_wellMade_141 : cf_D k_mod_wellMade 141 (.iadd) 1 142 := ⟨by decide +kernel, rfl⟩
theorem d_mod_wellMade_142 : cf_D k_mod_wellMade 142 (.iload 8) 2 144 := ⟨by decide +kernel, rfl⟩
theorem d_mod_wellMade_144 : cf_D k_mod_wellMade 144 (.iadd) 1 145 := ⟨by decide +kernel, rfl⟩
theorem d_mod_wellMade_145 : cf_D k_mod_wellMade 145 (.ifCond .ne 7) 3 148 := ⟨by decide +kernel, rfl⟩
theorem d_mod_wellMade_148 : cf_D k_mod_wellMade 148 (.iconst 1) 1 149 := ⟨by decide +kernel, rfl⟩
theorem d_mod_wellMade_149 : cf_D k_mod_wellMade 149 (.goto 4) 3 152 := ⟨by decide +kernel, rfl⟩
theorem d_mod_wellMade_152 : cf_D k_mod_wellMade 152 (.iconst 0) 1 153 := ⟨by decide +kernel, rfl⟩
theorem d_mod_wellMade_153 : cf_D k_mod_wellMade 153 (.ireturn) 1 154 := ⟨by decide +kernel, rfl⟩
theorem d_mod_wellMade_154 : cf_D k_mod_wellMade 154 (.iload 5) 2 156 := ⟨by decide +kernel, rfl⟩
theorem d_mod_wellMade_156 : cf_D k_mod_wellMade 156 (.iconst 1) 1 157 := ⟨by decide +kernel, rfl⟩
theorem d_mod_wellMade_157 : cf_D k_mod_wellMade 157 (.if_icmp .gt 15) 3 160 := ⟨by decide +kernel, rfl⟩
theorem d_mod_wellMade_160 : cf_D k_mod_wellMade 160 (.iload 8) 2 162 := ⟨by decide +kernel, rfl⟩
theorem d_mod_wellMade_162 : cf_D k_mod_wellMade 162 (.iconst 1) 1 163 := ⟨by decide +kernel, rfl⟩
theorem d_mod_wellMade_163 : cf_D k_mod_wellMade 163 (.if_icmp .gt 9) 3 166 := ⟨by decide +kernel, rfl⟩
theorem d_mod_wellMade_166 : cf_D k_mod_wellMade 166 (.iload 7) 2 168 := ⟨by decide +kernel, rfl⟩
theorem d_mod_wellMade_168 : cf_D k_mod_wellMade 168 (.iconst 2) 1 169 := ⟨by decide +kernel, rfl⟩
theorem d_mod_wellMade_169 : cf_D k_mod_wellMade 169 (.if_icmp .le 5) 3 172 := ⟨by decide +kernel, rfl⟩
theorem d_mod_wellMade_172 : cf_D k_mod_wellMade 172 (.iconst 0) 1 173 := ⟨by decide +kernel, rfl⟩
theorem d_mod_wellMade_173 : cf_D k_mod_wellMade 173 (.ireturn) 1 174 := ⟨by decide +kernel, rfl⟩
theorem d_mod_wellMade_174 : cf_D k_mod_wellMade 174 (.aload_n 0) 1 175 := ⟨by decide +kernel, rfl⟩
theorem d_mod_wellMade_175 : cf_D k_mod_wellMade 175 (.iload_n 1) 1 176 := ⟨by decide +kernel, rfl⟩
theorem d_mod_wellMade_176 : cf_D k_mod_wellMade 176 (.bipush 6) 2 178 := ⟨by decide +kernel, rfl⟩
theorem d_mod_wellMade_178 : cf_D k_mod_wellMade 178 (.invokevirtual 95) 3 181 := ⟨by decide +kernel, rfl⟩
theorem d_mod_wellMade_181 : cf_D k_mod_wellMade 181 (.istore 10) 2 183 := ⟨by decide +kernel, rfl⟩
theorem d_mod_wellMade_183 : cf_D k_mod_wellMade 183 (.iload 8) 2 185 := ⟨by decide +kernel, rfl⟩
theorem d_mod_wellMade_185 : cf_D k_mod_wellMade 185 (.iconst 1) 1 186 := ⟨by decide +kernel, rfl⟩
theorem d_mod_wellMade_186 : cf_D k_mod_wellMade 186 (.if_icmp .ne 7) 3 189 := ⟨by decide +kernel, rfl⟩
theorem d_mod_wellMade_189 : cf_D k_mod_wellMade 189 (.iconst 1) 1 190 := ⟨by decide +kernel, rfl⟩
theorem d_mod_wellMade_190 : cf_D k_mod_wellMade 190 (.goto 4) 3 193 := ⟨by decide +kernel, rfl⟩
theorem d_mod_wellMade_193 : cf_D k_mod_wellMade 193 (.iconst 0) 1 194 := ⟨by decide +kernel, rfl⟩
theorem d_mod_wellMade_194 : cf_D k_mod_wellMade 194 (.istore 11) 2 196 := ⟨by decide +kernel, rfl⟩
theorem d_mod_wellMade_196 : cf_D k_mod_wellMade 196 (.iload 11) 2 198 := ⟨by decide +kernel, rfl⟩
theorem d_mod_wellMade_198 : cf_D k_mod_wellMade 198 (.ifCond .eq 52) 3 201 := ⟨by decide +kernel, rfl⟩
theorem d_mod_wellMade_201 : cf_D k_mod_wellMade 201 (.iload 5) 2 203 := ⟨by decide +kernel, rfl⟩
theorem d_mod_wellMade_203 : cf_D k_mod_wellMade 203 (.iconst 1) 1 204 := ⟨by decide +kernel, rfl⟩
theorem d_mod_wellMade_204 : cf_D k_mod_wellMade 204 (.if_icmp .ne 14) 3 207 := ⟨by decide +kernel, rfl⟩
theorem d_mod_wellMade_207 : cf_D k_mod_wellMade 207 (.aload_n 0) 1 208 := ⟨by decide +kernel, rfl⟩
theorem d_mod_wellMade_208 : cf_D k_mod_wellMade 208 (.iload_n 1) 1 209 := ⟨by decide +kernel, rfl⟩
theorem d_mod_wellMade_209 : cf_D k_mod_wellMade 209 (.iconst 3) 1 210 := ⟨by decide +kernel, rfl⟩
theorem d_mod_wellMade_210 : cf_D k_mod_wellMade 210 (.invokevirtual 95) 3 213 := ⟨by decide +kernel, rfl⟩
theorem d_mod_wellMade_213 : cf_D k_mod_wellMade 213 (.iload 10) 2 215 := ⟨by decide +kernel, rfl⟩
theorem d_mod_wellMade_215 : cf_D k_mod_wellMade 215 (.if_icmp .gt 33) 3 218 := ⟨by decide +kernel, rfl⟩
theorem d_mod_wellMade_218 : cf_D k_mod_wellMade 218 (.aload_n 0) 1 219 := ⟨by decide +kernel, rfl⟩
theorem d_mod_wellMade_219 : cf_D k_mod_wellMade 219 (.iload 10) 2 221 := ⟨by decide +kernel, rfl⟩
theorem d_mod_wellMade_221 : cf_D k_mod_wellMade 221 (.iload_n 3) 1 222 := ⟨by decide +kernel, rfl⟩
theorem d_mod_wellMade_222 : cf_D k_mod_wellMade 222 (.iconst 2) 1 223 := ⟨by decide +kernel, rfl⟩
theorem d_mod_wellMade_223 : cf_D k_mod_wellMade 223 (.invokevirtual 91) 3 226 := ⟨by decide +kernel, rfl⟩
theorem d_mod_wellMade_226 : cf_D k_mod_wellMade 226 (.ifCond .eq 22) 3 229 := ⟨by decide +kernel, rfl⟩
theorem d_mod_wellMade_229 : cf_D k_mod_wellMade 229 (.iload 6) 2 231 := ⟨by decide +kernel, rfl⟩
theorem d_mod_wellMade_231 : cf_D k_mod_wellMade 231 (.ifCond .gt 17) 3 234 := ⟨by decide +kernel, rfl⟩
theorem d_mod_wellMade_234 : cf_D k_mod_wellMade 234 (.aload_n 0) 1 235 := ⟨by decide +kernel, rfl⟩
theorem d_mod_wellMade_235 : cf_D k_mod_wellMade 235 (.iload_n 2) 1 236 := ⟨by decide +kernel, rfl⟩
theorem d_mod_wellMade_236 : cf_D k_mod_wellMade 236 (.aload_n 0) 1 237 := ⟨by decide +kernel, rfl⟩
theorem d_mod_wellMade_237 : cf_D k_mod_wellMade 237 (.iload_n 1) 1 238 := ⟨by decide +kernel, rfl⟩
theorem d_mod_wellMade_238 : cf_D k_mod_wellMade 238 (.invokevirtual 99) 3 241 := ⟨by decide +kernel, rfl⟩
theorem d_mod_wellMade_241 : cf_D k_mod_wellMade 241 (.iconst 2) 1 242 := ⟨by decide +kernel, rfl⟩
theorem d_mod_wellMade_242 : cf_D k_mod_wellMade 242 (.invokevirtual 91) 3 245 := ⟨by decide +kernel, rfl⟩
theorem d_mod_wellMade_245 : cf_D k_mod_wellMade 245 (.ifCond .ne 5) 3 248 := ⟨by decide +kernel, rfl⟩
theorem d_mod_wellMade_248 : cf_D k_mod_wellMade 248 (.iconst 0) 1 249 := ⟨by decide +kernel, rfl⟩
theorem d_mod_wellMade_249 : cf_D k_mod_wellMade 249 (.ireturn) 1 250 := ⟨by decide +kernel, rfl⟩
theorem d_mod_wellMade_250 : cf_D k_mod_wellMade 250 (.iload_n 2) 1 251 := ⟨by decide +kernel, rfl⟩
theorem d_mod_wellMade_251 : cf_D k_mod_wellMade 251 (.istore 12) 2 253 := ⟨by decide +kernel, rfl⟩
theorem d_mod_wellMade_253 : cf_D k_mod_wellMade 253 (.iload 12) 2 255 := ⟨by decide +kernel, rfl⟩
theorem d_mod_wellMade_255 : cf_D k_mod_wellMade 255 (.iload_n 3) 1 256 := ⟨by decide +kernel, rfl⟩
theorem d_mod_wellMade_256 : cf_D k_mod_wellMade 256 (.if_icmp .ge 42) 3 259 := ⟨by decide +kernel, rfl⟩
theorem d_mod_wellMade_259 : cf_D k_mod_wellMade 259 (.aload_n 0) 1 260 := ⟨by decide +kernel, rfl⟩
theorem d_mod_wellMade_260 : cf_D k_mod_wellMade 260 (.getfield 16) 3 263 := ⟨by decide +kernel, rfl⟩
theorem d_mod_wellMade_263 : cf_D k_mod_wellMade 263 (.iload 12) 2 265 := ⟨by decide +kernel, rfl⟩
theorem d_mod_wellMade_265 : cf_D k_mod_wellMade 265 (.iaload) 1 266 := ⟨by decide +kernel, rfl⟩
theorem d_mod_wellMade_266 : cf_D k_mod_wellMade 266 (.iconst 4) 1 267 := ⟨by decide +kernel, rfl⟩
theorem d_mod_wellMade_267 : cf_D k_mod_wellMade 267 (.if_icmp .ne 25) 3 270 := ⟨by decide +kernel, rfl⟩
theorem d_mod_wellMade_270 : cf_D k_mod_wellMade 270 (.aload_n 0) 1 271 := ⟨by decide +kernel, rfl⟩
theorem d_mod_wellMade_271 : cf_D k_mod_wellMade 271 (.iload_n 1) 1 272 := ⟨by decide +kernel, rfl⟩
theorem d_mod_wellMade_272 : cf_D k_mod_wellMade 272 (.iload 12) 2 274 := ⟨by decide +kernel, rfl⟩
theorem d_mod_wellMade_274 : cf_D k_mod_wellMade 274 (.invokevirtual 105) 3 277 := ⟨by decide +kernel, rfl⟩
theorem d_mod_wellMade_277 : cf_D k_mod_wellMade 277 (.ifCond .ne 15) 3 280 := ⟨by decide +kernel, rfl⟩
theorem d_mod_wellMade_280 : cf_D k_mod_wellMade 280 (.aload_n 0) 1 281 := ⟨by decide +kernel, rfl⟩
theorem d_mod_wellMade_281 : cf_D k_mod_wellMade 281 (.iload_n 1) 1 282 := ⟨by decide +kernel, rfl⟩
theorem d_mod_wellMade_282 : cf_D k_mod_wellMade 282 (.iload 12) 2 284 := ⟨by decide +kernel, rfl⟩
theorem d_mod_wellMade_284 : cf_D k_mod_wellMade 284 (.invokevirtual 109) 3 287 := ⟨by decide +kernel, rfl⟩
theorem d_mod_wellMade_287 : cf_D k_mod_wellMade 287 (.ifCond .ne 5) 3 290 := ⟨by decide +kernel, rfl⟩
theorem d_mod_wellMade_290 : cf_D k_mod_wellMade 290 (.iconst 0) 1 291 := ⟨by decide +kernel, rfl⟩
theorem d_mod_wellMade_291 : cf_D k_mod_wellMade 291 (.ireturn) 1 292 := ⟨by decide +kernel, rfl⟩
theorem d_mod_wellMade_292 : cf_D k_mod_wellMade 292 (.iinc 12 1) 3 295 := ⟨by decide +kernel, rfl⟩
theorem d_mod_wellMade_295 : cf_D k_mod_wellMade 295 (.goto (-42)) 3 298 := ⟨by decide +kernel, rfl⟩
theorem d_mod_wellMade_298 : cf_D k_mod_wellMade 298 (.iconst 1) 1 299 := ⟨by decide +kernel, rfl⟩
theorem d_mod_wellMade_299 : cf_D k_mod_wellMade 299 (.ireturn) 1 300 := ⟨by decide +kernel, rfl⟩
theorem d_mod_count_0 : cf_D k_mod_count 0 (.iconst 0) 1 1 := ⟨by decide +kernel, rfl⟩
theorem d_mod_count_1 : cf_D k_mod_count 1 (.istore 4) 2 3 := ⟨by decide +kernel, rfl⟩
theorem d_mod_count_3 : cf_D k_mod_count 3 (.iload_n 1) 1 4 := ⟨by decide +kernel, rfl⟩
theorem d_mod_count_4 : cf_D k_mod_count 4 (.istore 5) 2 6 := ⟨by decide +kernel, rfl⟩
theorem d_mod_count_6 : cf_D k_mod_count 6 (.iload 5) 2 8 := ⟨by decide +kernel, rfl⟩
theorem d_mod_count_8 : cf_D k_mod_count 8 (.iload_n 2) 1 9 := ⟨by decide +kernel, rfl⟩
theorem d_mod_count_9 : cf_D k_mod_count 9 (.if_icmp .ge 30) 3 12 := ⟨by decide +kernel, rfl⟩
theorem d_mod_count_12 : cf_D k_mod_count 12 (.iload 4) 2 14 := ⟨by decide +kernel, rfl⟩
theorem d_mod_count_14 : cf_D k_mod_count 14 (.aload_n 0) 1 15 := ⟨by decide +kernel, rfl⟩
theorem d_mod_count_15 : cf_D k_mod_count 15 (.getfield 16) 3 18 := ⟨by decide +kernel, rfl⟩
theorem d_mod_count_18 : cf_D k_mod_count 18 (.iload 5) 2 20 := ⟨by decide +kernel, rfl⟩
theorem d_mod_count_20 : cf_D k_mod_count 20 (.iaload) 1 21 := ⟨by decide +kernel, rfl⟩
theorem d_mod_count_21 : cf_D k_mod_count 21 (.iload_n 3) 1 22 := ⟨by decide +kernel, rfl⟩
theorem d_mod_count_22 : cf_D k_mod_count 22 (.if_icmp .ne 7) 3 25 := ⟨by decide +kernel, rfl⟩
theorem d_mod_count_25 : cf_D k_mod_count 25 (.iconst 1) 1 26 := ⟨by decide +kernel, rfl⟩
theorem d_mod_count_26 : cf_D k_mod_count 26 (.goto 4) 3 29 := ⟨by decide +kernel, rfl⟩
theorem d_mod_count_29 : cf_D k_mod_count 29 (.iconst 0) 1 30 := ⟨by decide +kernel, rfl⟩
theorem d_mod_count_30 : cf_D k_mod_count 30 (.iadd) 1 31 := ⟨by decide +kernel, rfl⟩
theorem d_mod_count_31 : cf_D k_mod_count 31 (.istore 4) 2 33 := ⟨by decide +kernel, rfl⟩
theorem d_mod_count_33 : cf_D k_mod_count 33 (.iinc 5 1) 3 36 := ⟨by decide +kernel, rfl⟩
theorem d_mod_count_36 : cf_D k_mod_count 36 (.goto (-30)) 3 39 := ⟨by decide +kernel, rfl⟩
theorem d_mod_count_39 : cf_D k_mod_count 39 (.iload 4) 2 41 := ⟨by decide +kernel, rfl⟩
theorem d_mod_count_41 : cf_D k_mod_count 41 (.ireturn) 1 42 := ⟨by decide +kernel, rfl⟩
theorem d_mod_kindOf_0 : cf_D k_mod_kindOf 0 (.aload_n 0) 1 1 := ⟨by decide +kernel, rfl⟩
theorem d_mod_kindOf_1 : cf_D k_mod_kindOf 1 (.getfield 25) 3 4 := ⟨by decide +kernel, rfl⟩
theorem d_mod_kindOf_4 : cf_D k_mod_kindOf 4 (.iload_n 1) 1 5 := ⟨by decide +kernel, rfl⟩
theorem d_mod_kindOf_5 : cf_D k_mod_kindOf 5 (.iaload) 1 6 := ⟨by decide +kernel, rfl⟩
theorem d_mod_kindOf_6 : cf_D k_mod_kindOf 6 (.istore_n 2) 1 7 := ⟨by decide +kernel, rfl⟩
theorem d_mod_kindOf_7 : cf_D k_mod_kindOf 7 (.aload_n 0) 1 8 := ⟨by decide +kernel, rfl⟩
theorem d_mod_kindOf_8 : cf_D k_mod_kindOf 8 (.getfield 25) 3 11 := ⟨by decide +kernel, rfl⟩
theorem d_mod_kindOf_11 : cf_D k_mod_kindOf 11 (.iload_n 1) 1 12 := ⟨by decide +kernel, rfl⟩
theorem d_mod_kindOf_12 : cf_D k_mod_kindOf 12 (.iconst 1) 1 13 := ⟨by decide +kernel, rfl⟩
theorem d_mod_kindOf_13 : cf_D k_mod_kindOf 13 (.iadd) 1 14 := ⟨by decide +kernel, rfl⟩
theorem d_mod_kindOf_14 : cf_D k_mod_kindOf 14 (.iaload) 1 15 := ⟨by decide +kernel, rfl⟩
theorem d_mod_kindOf_15 : cf_D k_mod_kindOf 15 (.istore_n 3) 1 16 := ⟨by decide +kernel, rfl⟩
theorem d_mod_kindOf_16 : cf_D k_mod_kindOf 16 (.aload_n 0) 1 17 := ⟨by decide +kernel, rfl⟩
theorem d_mod_kindOf_17 : cf_D k_mod_kindOf 17 (.iload_n 2) 1 18 := ⟨by decide +kernel, rfl⟩
theorem d_mod_kindOf_18 : cf_D k_mod_kindOf 18 (.iload_n 3) 1 19 := ⟨by decide +kernel, rfl⟩
theorem d_mod_kindOf_19 : cf_D k_mod_kindOf 19 (.bipush 9) 2 21 := ⟨by decide +kernel, rfl⟩
theorem d_mod_kindOf_21 : cf_D k_mod_kindOf 21 (.invokevirtual 91) 3 24 := ⟨by decide +kernel, rfl⟩
theorem d_mod_kindOf_24 : cf_D k_mod_kindOf 24 (.aload_n 0) 1 25 := ⟨by decide +kernel, rfl⟩
theorem d_mod_kindOf_25 : cf_D k_mod_kindOf 25 (.iload_n 2) 1 26 := ⟨by decide +kernel, rfl⟩
theorem d_mod_kindOf_26 : cf_D k_mod_kindOf 26 (.iload_n 3) 1 27 := ⟨by decide +kernel, rfl⟩
theorem d_mod_kindOf_27 : cf_D k_mod_kindOf 27 (.bipush 8) 2 29 := ⟨by decide +kernel, rfl⟩
theorem d_mod_kindOf_29 : cf_D k_mod_kindOf 29 (.invokevirtual 91) 3 32 := ⟨by decide +kernel, rfl⟩
theorem d_mod_kindOf_32 : cf_D k_mod_kindOf 32 (.iadd) 1 33 := ⟨by decide +kernel, rfl⟩
theorem d_mod_kindOf_33 : cf_D k_mod_kindOf 33 (.aload_n 0) 1 34 := ⟨by decide +kernel, rfl⟩
theorem d_mod_kindOf_34 : cf_D k_mod_kindOf 34 (.iload_n 2) 1 35 := ⟨by decide +kernel, rfl⟩
theorem d_mod_kindOf_35 : cf_D k_mod_kindOf 35 (.iload_n 3) 1 36 := ⟨by decide +kernel, rfl⟩
theorem d_mod_kindOf_36 : cf_D k_mod_kindOf 36 (.bipush 10) 2 38 := ⟨by decide +kernel, rfl⟩
theorem d_mod_kindOf_38 : cf_D k_mod_kindOf 38 (.invokevirtual 91) 3 41 := ⟨by decide +kernel, rfl⟩
theorem d_mod_kindOf_41 : cf_D k_mod_kindOf 41 (.iadd) 1 42 := ⟨by decide +kernel, rfl⟩
theorem d_mod_kindOf_42 : cf_D k_mod_kindOf 42 (.ifCond .le 5) 3 45 := ⟨by decide +kernel, rfl⟩
theorem d_mod_kindOf_45 : cf_D k_mod_kindOf 45 (.iconst 2) 1 46 := ⟨by decide +kernel, rfl⟩
theorem d_mod_kindOf_46 : cf_D k_mod_kindOf 46 (.ireturn) 1 47 := ⟨by decide +kernel, rfl⟩
theorem d_mod_kindOf_47 : cf_D k_mod_kindOf 47 (.aload_n 0) 1 48 := ⟨by decide +kernel, rfl⟩
theorem d_mod_kindOf_48 : cf_D k_mod_kindOf 48 (.iload_n 2) 1 49 := ⟨by decide +kernel, rfl⟩
theorem d_mod_kindOf_49 : cf_D k_mod_kindOf 49 (.iload_n 3) 1 50 := ⟨by decide +kernel, rfl⟩
theorem d_mod_kindOf_50 : cf_D k_mod_kindOf 50 (.iconst 2) 1 51 := ⟨by decide +kernel, rfl⟩
theorem d_mod_kindOf_51 : cf_D k_mod_kindOf 51 (.invokevirtual 91) 3 54 := ⟨by decide +kernel, rfl⟩
theorem d_mod_kindOf_54 : cf_D k_mod_kindOf 54 (.ifCond .le 7) 3 57 := ⟨by decide +kernel, rfl⟩
theorem d_mod_kindOf_57 : cf_D k_mod_kindOf 57 (.iconst 1) 1 58 := ⟨by decide +kernel, rfl⟩
theorem d_mod_kindOf_58 : cf_D k_mod_kindOf 58 (.goto 4) 3 61 := ⟨by decide +kernel, rfl⟩
theorem d_mod_kindOf_61 : cf_D k_mod_kindOf 61 (.iconst 0) 1 62 := ⟨by decide +kernel, rfl⟩
theorem d_mod_kindOf_62 : cf_D k_mod_kindOf 62 (.ireturn) 1 63 := ⟨by decide +kernel, rfl⟩
theorem d_mod_find_0 : cf_D k_mod_find 0 (.aload_n 0) 1 1 := ⟨by decide +kernel, rfl⟩
theorem d_mod_find_1 : cf_D k_mod_find 1 (.getfield 25) 3 4 := ⟨by decide +kernel, rfl⟩
theorem d_mod_find_4 : cf_D k_mod_find 4 (.iload_n 1) 1 5 := ⟨by decide +kernel, rfl⟩
theorem d_mod_find_5 : cf_D k_mod_find 5 (.iaload) 1 6 := ⟨by decide +kernel, rfl⟩
theorem d_mod_find_6 : cf_D k_mod_find 6 (.istore_n 3) 1 7 := ⟨by decide +kernel, rfl⟩
theorem d_mod_find_7 : cf_D k_mod_find 7 (.iload_n 3) 1 8 := ⟨by decide +kernel, rfl⟩
theorem d_mod_find_8 : cf_D k_mod_find 8 (.aload_n 0) 1 9 := ⟨by decide +kernel, rfl⟩
theorem d_mod_find_9 : cf_D k_mod_find 9 (.getfield 25) 3 12 := ⟨by decide +kernel, rfl⟩
theorem d_mod_find_12 : cf_D k_mod_find 12 (.iload_n 1) 1 13 := ⟨by decide +kernel, rfl⟩
theorem d_mod_find_13 : cf_D k_mod_find 13 (.iconst 1) 1 14 := ⟨by decide +kernel, rfl⟩
theorem d_mod_find_14 : cf_D k_mod_find 14 (.iadd) 1 15 := ⟨by decide +kernel, rfl⟩
theorem d_mod_find_15 : cf_D k_mod_find 15 (.iaload) 1 16 := ⟨by decide +kernel, rfl⟩
theorem d_mod_find_16 : cf_D k_mod_find 16 (.if_icmp .ge 19) 3 19 := ⟨by decide +kernel, rfl⟩
theorem d_mod_find_19 : cf_D k_mod_find 19 (.aload_n 0) 1 20 := ⟨by decide +kernel, rfl⟩
theorem d_mod_find_20 : cf_D k_mod_find 20 (.getfield 16) 3 23 := ⟨by decide +kernel, rfl⟩
theorem d_mod_find_23 : cf_D k_mod_find 23 (.iload_n 3) 1 24 := ⟨by decide +kernel, rfl⟩
theorem d_mod_find_24 : cf_D k_mod_find 24 (.iaload) 1 25 := ⟨by decide +kernel, rfl⟩
theorem d_mod_find_25 : cf_D k_mod_find 25 (.iload_n 2) 1 26 := ⟨by decide +kernel, rfl⟩
theorem d_mod_find_26 : cf_D k_mod_find 26 (.if_icmp .eq 9) 3 29 := ⟨by decide +kernel, rfl⟩
theorem d_mod_find_29 : cf_D k_mod_find 29 (.iinc 3 1) 3 32 := ⟨by decide +kernel, rfl⟩
theorem d_mod_find_32 : cf_D k_mod_find 32 (.goto (-25)) 3 35 := ⟨by decide +kernel, rfl⟩
theorem d_mod_find_35 : cf_D k_mod_find 35 (.iload_n 3) 1 36 := ⟨by decide +kernel, rfl⟩
theorem d_mod_find_36 : cf_D k_mod_find 36 (.ireturn) 1 37 := ⟨by decide +kernel, rfl⟩
theorem d_mod_integerEnd_0 : cf_D k_mod_integerEnd 0 (.aload_n 0) 1 1 := ⟨by decide +kernel, rfl⟩
theorem d_mod_integerEnd_1 : cf_D k_mod_integerEnd 1 (.iload_n 1) 1 2 := ⟨by decide +kernel, rfl⟩
theorem d_mod_integerEnd_2 : cf_D k_mod_integerEnd 2 (.iconst 3) 1 3 := ⟨by decide +kernel, rfl⟩
theorem d_mod_integerEnd_3 : cf_D k_mod_integerEnd 3 (.invokevirtual 95) 3 6 := ⟨by decide +kernel, rfl⟩
theorem d_mod_integerEnd_6 : cf_D k_mod_integerEnd 6 (.istore_n 2) 1 7 := ⟨by decide +kernel, rfl⟩
theorem d_mod_integerEnd_7 : cf_D k_mod_integerEnd 7 (.aload_n 0) 1 8 := ⟨by decide +kernel, rfl⟩
theorem d_mod_integerEnd_8 : cf_D k_mod_integerEnd 8 (.iload_n 1) 1 9 := ⟨by decide +kernel, rfl⟩
theorem d_mod_integerEnd_9 : cf_D k_mod_integerEnd 9 (.bipush 6) 2 11 := ⟨by decide +kernel, rfl⟩
theorem d_mod_integerEnd_11 : cf_D k_mod_integerEnd 11 (.invokevirtual 95) 3 14 := ⟨by decide +kernel, rfl⟩
theorem d_mod_integerEnd_14 : cf_D k_mod_integerEnd 14 (.istore_n 3) 1 15 := ⟨by decide +kernel, rfl⟩
theorem d_mod_integerEnd_15 : cf_D k_mod_integerEnd 15 (.iload_n 2) 1 16 := ⟨by decide +kernel, rfl⟩
theorem d_mod_integerEnd_16 : cf_D k_mod_integerEnd 16 (.iload_n 3) 1 17 := ⟨by decide +kernel, rfl⟩
theorem d_mod_integerEnd_17 : cf_D k_mod_integerEnd 17 (.if_icmp .ge 7) 3 20 := ⟨by decide +kernel, rfl⟩
end
section
/-! decode rows -/
theorem d_mod_integerEnd_20 : cf_D k_mod_integerEnd 20 (.iload_n 2) 1 21 := ⟨by decide +kernel, rfl⟩
theorem d_mod_integerEnd_21 : cf_D k_mod_integerEnd 21 (.goto 4) 3 24 := ⟨by decide +kernel, rfl⟩
theorem d_mod_integerEnd_24 : cf_D k_mod_integerEnd 24 (.iload_n 3) 1 25 := ⟨by decide +kernel, rfl⟩
theorem d_mod_integerEnd_25 : cf_D k_mod_integerEnd 25 (.ireturn) 1 26 := ⟨by decide +kernel, rfl⟩
theorem d_mod_groups_0 : cf_D k_mod_groups 0 (.aload_n 0) 1 1 := ⟨by decide +kernel, rfl⟩
theorem d_mod_groups_1 : cf_D k_mod_groups 1 (.aload_n 0) 1 2 := ⟨by decide +kernel, rfl⟩
theorem d_mod_groups_2 : cf_D k_mod_groups 2 (.getfield 25) 3 5 := ⟨by decide +kernel, rfl⟩
theorem d_mod_groups_5 : cf_D k_mod_groups 5 (.iload_n 1) 1 6 := ⟨by decide +kernel, rfl⟩
theorem d_mod_groups_6 : cf_D k_mod_groups 6 (.iaload) 1 7 := ⟨by decide +kernel, rfl⟩
theorem d_mod_groups_7 : cf_D k_mod_groups 7 (.iload_n 2) 1 8 := ⟨by decide +kernel, rfl⟩
theorem d_mod_groups_8 : cf_D k_mod_groups 8 (.iconst 2) 1 9 := ⟨by decide +kernel, rfl⟩
theorem d_mod_groups_9 : cf_D k_mod_groups 9 (.invokevirtual 91) 3 12 := ⟨by decide +kernel, rfl⟩
theorem d_mod_groups_12 : cf_D k_mod_groups 12 (.ifCond .le 30) 3 15 := ⟨by decide +kernel, rfl⟩
theorem d_mod_groups_15 : cf_D k_mod_groups 15 (.iload_n 2) 1 16 := ⟨by decide +kernel, rfl⟩
theorem d_mod_groups_16 : cf_D k_mod_groups 16 (.aload_n 0) 1 17 := ⟨by decide +kernel, rfl⟩
theorem d_mod_groups_17 : cf_D k_mod_groups 17 (.iload_n 1) 1 18 := ⟨by decide +kernel, rfl⟩
theorem d_mod_groups_18 : cf_D k_mod_groups 18 (.invokevirtual 99) 3 21 := ⟨by decide +kernel, rfl⟩
theorem d_mod_groups_21 : cf_D k_mod_groups 21 (.if_icmp .ge 21) 3 24 := ⟨by decide +kernel, rfl⟩
theorem d_mod_groups_24 : cf_D k_mod_groups 24 (.aload_n 0) 1 25 := ⟨by decide +kernel, rfl⟩
theorem d_mod_groups_25 : cf_D k_mod_groups 25 (.iload_n 2) 1 26 := ⟨by decide +kernel, rfl⟩
theorem d_mod_groups_26 : cf_D k_mod_groups 26 (.aload_n 0) 1 27 := ⟨by decide +kernel, rfl⟩
theorem d_mod_groups_27 : cf_D k_mod_groups 27 (.iload_n 1) 1 28 := ⟨by decide +kernel, rfl⟩
theorem d_mod_groups_28 : cf_D k_mod_groups 28 (.invokevirtual 99) 3 31 := ⟨by decide +kernel, rfl⟩
theorem d_mod_groups_31 : cf_D k_mod_groups 31 (.iconst 2) 1 32 := ⟨by decide +kernel, rfl⟩
theorem d_mod_groups_32 : cf_D k_mod_groups 32 (.invokevirtual 91) 3 35 := ⟨by decide +kernel, rfl⟩
theorem d_mod_groups_35 : cf_D k_mod_groups 35 (.ifCond .le 7) 3 38 := ⟨by decide +kernel, rfl⟩
theorem d_mod_groups_38 : cf_D k_mod_groups 38 (.iconst 1) 1 39 := ⟨by decide +kernel, rfl⟩
theorem d_mod_groups_39 : cf_D k_mod_groups 39 (.goto 4) 3 42 := ⟨by decide +kernel, rfl⟩
theorem d_mod_groups_42 : cf_D k_mod_groups 42 (.iconst 0) 1 43 := ⟨by decide +kernel, rfl⟩
theorem d_mod_groups_43 : cf_D k_mod_groups 43 (.ireturn) 1 44 := ⟨by decide +kernel, rfl⟩
theorem d_mod_scales_0 : cf_D k_mod_scales 0 (.iload_n 2) 1 1 := ⟨by decide +kernel, rfl⟩
theorem d_mod_scales_1 : cf_D k_mod_scales 1 (.aload_n 0) 1 2 := ⟨by decide +kernel, rfl⟩
theorem d_mod_scales_2 : cf_D k_mod_scales 2 (.iload_n 1) 1 3 := ⟨by decide +kernel, rfl⟩
theorem d_mod_scales_3 : cf_D k_mod_scales 3 (.invokevirtual 99) 3 6 := ⟨by decide +kernel, rfl⟩
theorem d_mod_scales_6 : cf_D k_mod_scales 6 (.if_icmp .ge 18) 3 9 := ⟨by decide +kernel, rfl⟩
theorem d_mod_scales_9 : cf_D k_mod_scales 9 (.aload_n 0) 1 10 := ⟨by decide +kernel, rfl⟩
theorem d_mod_scales_10 : cf_D k_mod_scales 10 (.aload_n 0) 1 11 := ⟨by decide +kernel, rfl⟩
theorem d_mod_scales_11 : cf_D k_mod_scales 11 (.getfield 25) 3 14 := ⟨by decide +kernel, rfl⟩
theorem d_mod_scales_14 : cf_D k_mod_scales 14 (.iload_n 1) 1 15 := ⟨by decide +kernel, rfl⟩
theorem d_mod_scales_15 : cf_D k_mod_scales 15 (.iaload) 1 16 := ⟨by decide +kernel, rfl⟩
theorem d_mod_scales_16 : cf_D k_mod_scales 16 (.iload_n 2) 1 17 := ⟨by decide +kernel, rfl⟩
theorem d_mod_scales_17 : cf_D k_mod_scales 17 (.iconst 2) 1 18 := ⟨by decide +kernel, rfl⟩
theorem d_mod_scales_18 : cf_D k_mod_scales 18 (.invokevirtual 91) 3 21 := ⟨by decide +kernel, rfl⟩
theorem d_mod_scales_21 : cf_D k_mod_scales 21 (.ifCond .ne 5) 3 24 := ⟨by decide +kernel, rfl⟩
theorem d_mod_scales_24 : cf_D k_mod_scales 24 (.iconst 0) 1 25 := ⟨by decide +kernel, rfl⟩
theorem d_mod_scales_25 : cf_D k_mod_scales 25 (.ireturn) 1 26 := ⟨by decide +kernel, rfl⟩
theorem d_mod_scales_26 : cf_D k_mod_scales 26 (.iload_n 2) 1 27 := ⟨by decide +kernel, rfl⟩
theorem d_mod_scales_27 : cf_D k_mod_scales 27 (.istore_n 3) 1 28 := ⟨by decide +kernel, rfl⟩
theorem d_mod_scales_28 : cf_D k_mod_scales 28 (.iload_n 3) 1 29 := ⟨by decide +kernel, rfl⟩
theorem d_mod_scales_29 : cf_D k_mod_scales 29 (.aload_n 0) 1 30 := ⟨by decide +kernel, rfl⟩
theorem d_mod_scales_30 : cf_D k_mod_scales 30 (.getfield 25) 3 33 := ⟨by decide +kernel, rfl⟩
theorem d_mod_scales_33 : cf_D k_mod_scales 33 (.iload_n 1) 1 34 := ⟨by decide +kernel, rfl⟩
theorem d_mod_scales_34 : cf_D k_mod_scales 34 (.iaload) 1 35 := ⟨by decide +kernel, rfl⟩
theorem d_mod_scales_35 : cf_D k_mod_scales 35 (.if_icmp .le 19) 3 38 := ⟨by decide +kernel, rfl⟩
theorem d_mod_scales_38 : cf_D k_mod_scales 38 (.aload_n 0) 1 39 := ⟨by decide +kernel, rfl⟩
theorem d_mod_scales_39 : cf_D k_mod_scales 39 (.getfield 16) 3 42 := ⟨by decide +kernel, rfl⟩
theorem d_mod_scales_42 : cf_D k_mod_scales 42 (.iload_n 3) 1 43 := ⟨by decide +kernel, rfl⟩
theorem d_mod_scales_43 : cf_D k_mod_scales 43 (.iaload) 1 44 := ⟨by decide +kernel, rfl⟩
theorem d_mod_scales_44 : cf_D k_mod_scales 44 (.iconst 4) 1 45 := ⟨by decide +kernel, rfl⟩
theorem d_mod_scales_45 : cf_D k_mod_scales 45 (.if_icmp .ne 9) 3 48 := ⟨by decide +kernel, rfl⟩
theorem d_mod_scales_48 : cf_D k_mod_scales 48 (.iinc 3 (-1)) 3 51 := ⟨by decide +kernel, rfl⟩
theorem d_mod_scales_51 : cf_D k_mod_scales 51 (.goto (-23)) 3 54 := ⟨by decide +kernel, rfl⟩
theorem d_mod_scales_54 : cf_D k_mod_scales 54 (.aload_n 0) 1 55 := ⟨by decide +kernel, rfl⟩
theorem d_mod_scales_55 : cf_D k_mod_scales 55 (.getfield 16) 3 58 := ⟨by decide +kernel, rfl⟩
theorem d_mod_scales_58 : cf_D k_mod_scales 58 (.iload_n 3) 1 59 := ⟨by decide +kernel, rfl⟩
theorem d_mod_scales_59 : cf_D k_mod_scales 59 (.iaload) 1 60 := ⟨by decide +kernel, rfl⟩
theorem d_mod_scales_60 : cf_D k_mod_scales 60 (.iconst 2) 1 61 := ⟨by decide +kernel, rfl⟩
theorem d_mod_scales_61 : cf_D k_mod_scales 61 (.if_icmp .ne 21) 3 64 := ⟨by decide +kernel, rfl⟩
theorem d_mod_scales_64 : cf_D k_mod_scales 64 (.aload_n 0) 1 65 := ⟨by decide +kernel, rfl⟩
theorem d_mod_scales_65 : cf_D k_mod_scales 65 (.iload_n 2) 1 66 := ⟨by decide +kernel, rfl⟩
theorem d_mod_scales_66 : cf_D k_mod_scales 66 (.aload_n 0) 1 67 := ⟨by decide +kernel, rfl⟩
theorem d_mod_scales_67 : cf_D k_mod_scales 67 (.iload_n 1) 1 68 := ⟨by decide +kernel, rfl⟩
theorem d_mod_scales_68 : cf_D k_mod_scales 68 (.invokevirtual 99) 3 71 := ⟨by decide +kernel, rfl⟩
theorem d_mod_scales_71 : cf_D k_mod_scales 71 (.iconst 2) 1 72 := ⟨by decide +kernel, rfl⟩
theorem d_mod_scales_72 : cf_D k_mod_scales 72 (.invokevirtual 91) 3 75 := ⟨by decide +kernel, rfl⟩
theorem d_mod_scales_75 : cf_D k_mod_scales 75 (.ifCond .ne 7) 3 78 := ⟨by decide +kernel, rfl⟩
theorem d_mod_scales_78 : cf_D k_mod_scales 78 (.iconst 1) 1 79 := ⟨by decide +kernel, rfl⟩
theorem d_mod_scales_79 : cf_D k_mod_scales 79 (.goto 4) 3 82 := ⟨by decide +kernel, rfl⟩
theorem d_mod_scales_82 : cf_D k_mod_scales 82 (.iconst 0) 1 83 := ⟨by decide +kernel, rfl⟩
theorem d_mod_scales_83 : cf_D k_mod_scales 83 (.ireturn) 1 84 := ⟨by decide +kernel, rfl⟩
theorem d_mod_sections_0 : cf_D k_mod_sections 0 (.aload_n 0) 1 1 := ⟨by decide +kernel, rfl⟩
theorem d_mod_sections_1 : cf_D k_mod_sections 1 (.getfield 79) 3 4 := ⟨by decide +kernel, rfl⟩
theorem d_mod_sections_4 : cf_D k_mod_sections 4 (.ireturn) 1 5 := ⟨by decide +kernel, rfl⟩
theorem d_mod_kind_0 : cf_D k_mod_kind 0 (.iload_n 1) 1 1 := ⟨by decide +kernel, rfl⟩
theorem d_mod_kind_1 : cf_D k_mod_kind 1 (.ifCond .lt 11) 3 4 := ⟨by decide +kernel, rfl⟩
theorem d_mod_kind_4 : cf_D k_mod_kind 4 (.iload_n 1) 1 5 := ⟨by decide +kernel, rfl⟩
theorem d_mod_kind_5 : cf_D k_mod_kind 5 (.aload_n 0) 1 6 := ⟨by decide +kernel, rfl⟩
theorem d_mod_kind_6 : cf_D k_mod_kind 6 (.getfield 79) 3 9 := ⟨by decide +kernel, rfl⟩
theorem d_mod_kind_9 : cf_D k_mod_kind 9 (.if_icmp .lt 8) 3 12 := ⟨by decide +kernel, rfl⟩
theorem d_mod_kind_12 : cf_D k_mod_kind 12 (.bipush (-3)) 2 14 := ⟨by decide +kernel, rfl⟩
theorem d_mod_kind_14 : cf_D k_mod_kind 14 (.goto 8) 3 17 := ⟨by decide +kernel, rfl⟩
theorem d_mod_kind_17 : cf_D k_mod_kind 17 (.aload_n 0) 1 18 := ⟨by decide +kernel, rfl⟩
theorem d_mod_kind_18 : cf_D k_mod_kind 18 (.iload_n 1) 1 19 := ⟨by decide +kernel, rfl⟩
theorem d_mod_kind_19 : cf_D k_mod_kind 19 (.invokevirtual 102) 3 22 := ⟨by decide +kernel, rfl⟩
theorem d_mod_kind_22 : cf_D k_mod_kind 22 (.ireturn) 1 23 := ⟨by decide +kernel, rfl⟩
theorem d_mod_calendar_0 : cf_D k_mod_calendar 0 (.aload_n 0) 1 1 := ⟨by decide +kernel, rfl⟩
theorem d_mod_calendar_1 : cf_D k_mod_calendar 1 (.iload_n 1) 1 2 := ⟨by decide +kernel, rfl⟩
theorem d_mod_calendar_2 : cf_D k_mod_calendar 2 (.putfield 112) 3 5 := ⟨by decide +kernel, rfl⟩
theorem d_mod_calendar_5 : cf_D k_mod_calendar 5 (.return_) 1 6 := ⟨by decide +kernel, rfl⟩
theorem d_mod_date_0 : cf_D k_mod_date 0 (.iload_n 1) 1 1 := ⟨by decide +kernel, rfl⟩
theorem d_mod_date_1 : cf_D k_mod_date 1 (.aload_n 0) 1 2 := ⟨by decide +kernel, rfl⟩
theorem d_mod_date_2 : cf_D k_mod_date 2 (.invokevirtual 197) 3 5 := ⟨by decide +kernel, rfl⟩
theorem d_mod_date_5 : cf_D k_mod_date 5 (.if_icmp .lt 20) 3 8 := ⟨by decide +kernel, rfl⟩
theorem d_mod_date_8 : cf_D k_mod_date 8 (.iload_n 1) 1 9 := ⟨by decide +kernel, rfl⟩
theorem d_mod_date_9 : cf_D k_mod_date 9 (.aload_n 0) 1 10 := ⟨by decide +kernel, rfl⟩
theorem d_mod_date_10 : cf_D k_mod_date 10 (.invokevirtual 206) 3 13 := ⟨by decide +kernel, rfl⟩
theorem d_mod_date_13 : cf_D k_mod_date 13 (.if_icmp .gt 12) 3 16 := ⟨by decide +kernel, rfl⟩
theorem d_mod_date_16 : cf_D k_mod_date 16 (.iload_n 2) 1 17 := ⟨by decide +kernel, rfl⟩
theorem d_mod_date_17 : cf_D k_mod_date 17 (.ifCond .lt 8) 3 20 := ⟨by decide +kernel, rfl⟩
theorem d_mod_date_20 : cf_D k_mod_date 20 (.iload_n 2) 1 21 := ⟨by decide +kernel, rfl⟩
theorem d_mod_date_21 : cf_D k_mod_date 21 (.iconst 3) 1 22 := ⟨by decide +kernel, rfl⟩
theorem d_mod_date_22 : cf_D k_mod_date 22 (.if_icmp .le 6) 3 25 := ⟨by decide +kernel, rfl⟩
theorem d_mod_date_25 : cf_D k_mod_date 25 (.bipush (-3)) 2 27 := ⟨by decide +kernel, rfl⟩
theorem d_mod_date_27 : cf_D k_mod_date 27 (.ireturn) 1 28 := ⟨by decide +kernel, rfl⟩
theorem d_mod_date_28 : cf_D k_mod_date 28 (.iload_n 2) 1 29 := ⟨by decide +kernel, rfl⟩
theorem d_mod_date_29 : cf_D k_mod_date 29 (.iconst 3) 1 30 := ⟨by decide +kernel, rfl⟩
theorem d_mod_date_30 : cf_D k_mod_date 30 (.if_icmp .ne 24) 3 33 := ⟨by decide +kernel, rfl⟩
theorem d_mod_date_33 : cf_D k_mod_date 33 (.iload_n 1) 1 34 := ⟨by decide +kernel, rfl⟩
theorem d_mod_date_34 : cf_D k_mod_date 34 (.aload_n 0) 1 35 := ⟨by decide +kernel, rfl⟩
theorem d_mod_date_35 : cf_D k_mod_date 35 (.getfield 112) 3 38 := ⟨by decide +kernel, rfl⟩
theorem d_mod_date_38 : cf_D k_mod_date 38 (.ifCond .eq 7) 3 41 := ⟨by decide +kernel, rfl⟩
theorem d_mod_date_41 : cf_D k_mod_date 41 (.iconst 5) 1 42 := ⟨by decide +kernel, rfl⟩
theorem d_mod_date_42 : cf_D k_mod_date 42 (.goto 5) 3 45 := ⟨by decide +kernel, rfl⟩
theorem d_mod_date_45 : cf_D k_mod_date 45 (.bipush 6) 2 47 := ⟨by decide +kernel, rfl⟩
theorem d_mod_date_47 : cf_D k_mod_date 47 (.iadd) 1 48 := ⟨by decide +kernel, rfl⟩
theorem d_mod_date_48 : cf_D k_mod_date 48 (.bipush 7) 2 50 := ⟨by decide +kernel, rfl⟩
theorem d_mod_date_50 : cf_D k_mod_date 50 (.irem) 1 51 := ⟨by decide +kernel, rfl⟩
theorem d_mod_date_51 : cf_D k_mod_date 51 (.iconst 1) 1 52 := ⟨by decide +kernel, rfl⟩
theorem d_mod_date_52 : cf_D k_mod_date 52 (.iadd) 1 53 := ⟨by decide +kernel, rfl⟩
theorem d_mod_date_53 : cf_D k_mod_date 53 (.ireturn) 1 54 := ⟨by decide +kernel, rfl⟩
theorem d_mod_date_54 : cf_D k_mod_date 54 (.iload_n 1) 1 55 := ⟨by decide +kernel, rfl⟩
theorem d_mod_date_55 : cf_D k_mod_date 55 (.aload_n 0) 1 56 := ⟨by decide +kernel, rfl⟩
theorem d_mod_date_56 : cf_D k_mod_date 56 (.invokevirtual 197) 3 59 := ⟨by decide +kernel, rfl⟩
theorem d_mod_date_59 : cf_D k_mod_date 59 (.isub) 1 60 := ⟨by decide +kernel, rfl⟩
theorem d_mod_date_60 : cf_D k_mod_date 60 (.istore_n 3) 1 61 := ⟨by decide +kernel, rfl⟩
theorem d_mod_date_61 : cf_D k_mod_date 61 (.aload_n 0) 1 62 := ⟨by decide +kernel, rfl⟩
theorem d_mod_date_62 : cf_D k_mod_date 62 (.invokevirtual 200) 3 65 := ⟨by decide +kernel, rfl⟩
theorem d_mod_date_65 : cf_D k_mod_date 65 (.istore 4) 2 67 := ⟨by decide +kernel, rfl⟩
theorem d_mod_date_67 : cf_D k_mod_date 67 (.iload_n 3) 1 68 := ⟨by decide +kernel, rfl⟩
theorem d_mod_date_68 : cf_D k_mod_date 68 (.aload_n 0) 1 69 := ⟨by decide +kernel, rfl⟩
theorem d_mod_date_69 : cf_D k_mod_date 69 (.iload 4) 2 71 := ⟨by decide +kernel, rfl⟩
theorem d_mod_date_71 : cf_D k_mod_date 71 (.invokevirtual 203) 3 74 := ⟨by decide +kernel, rfl⟩
theorem d_mod_date_74 : cf_D k_mod_date 74 (.if_icmp .lt 18) 3 77 := ⟨by decide +kernel, rfl⟩
theorem d_mod_date_77 : cf_D k_mod_date 77 (.iload_n 3) 1 78 := ⟨by decide +kernel, rfl⟩
theorem d_mod_date_78 : cf_D k_mod_date 78 (.aload_n 0) 1 79 := ⟨by decide +kernel, rfl⟩
theorem d_mod_date_79 : cf_D k_mod_date 79 (.iload 4) 2 81 := ⟨by decide +kernel, rfl⟩
theorem d_mod_date_81 : cf_D k_mod_date 81 (.invokevirtual 203) 3 84 := ⟨by decide +kernel, rfl⟩
theorem d_mod_date_84 : cf_D k_mod_date 84 (.isub) 1 85 := ⟨by decide +kernel, rfl⟩
theorem d_mod_date_85 : cf_D k_mod_date 85 (.istore_n 3) 1 86 := ⟨by decide +kernel, rfl⟩
theorem d_mod_date_86 : cf_D k_mod_date 86 (.iinc 4 1) 3 89 := ⟨by decide +kernel, rfl⟩
theorem d_mod_date_89 : cf_D k_mod_date 89 (.goto (-22)) 3 92 := ⟨by decide +kernel, rfl⟩
theorem d_mod_date_92 : cf_D k_mod_date 92 (.iconst 1) 1 93 := ⟨by decide +kernel, rfl⟩
theorem d_mod_date_93 : cf_D k_mod_date 93 (.istore 5) 2 95 := ⟨by decide +kernel, rfl⟩
theorem d_mod_date_95 : cf_D k_mod_date 95 (.iload_n 3) 1 96 := ⟨by decide +kernel, rfl⟩
theorem d_mod_date_96 : cf_D k_mod_date 96 (.aload_n 0) 1 97 := ⟨by decide +kernel, rfl⟩
theorem d_mod_date_97 : cf_D k_mod_date 97 (.iload 4) 2 99 := ⟨by decide +kernel, rfl⟩
theorem d_mod_date_99 : cf_D k_mod_date 99 (.iload 5) 2 101 := ⟨by decide +kernel, rfl⟩
theorem d_mod_date_101 : cf_D k_mod_date 101 (.invokevirtual 194) 3 104 := ⟨by decide +kernel, rfl⟩
theorem d_mod_date_104 : cf_D k_mod_date 104 (.if_icmp .lt 20) 3 107 := ⟨by decide +kernel, rfl⟩
theorem d_mod_date_107 : cf_D k_mod_date 107 (.iload_n 3) 1 108 := ⟨by decide +kernel, rfl⟩
theorem d_mod_date_108 : cf_D k_mod_date 108 (.aload_n 0) 1 109 := ⟨by decide +kernel, rfl⟩
theorem d_mod_date_109 : cf_D k_mod_date 109 (.iload 4) 2 111 := ⟨by decide +kernel, rfl⟩
theorem d_mod_date_111 : cf_D k_mod_date 111 (.iload 5) 2 113 := ⟨by decide +kernel, rfl⟩
theorem d_mod_date_113 : cf_D k_mod_date 113 (.invokevirtual 194) 3 116 := ⟨by decide +kernel, rfl⟩
theorem d_mod_date_116 : cf_D k_mod_date 116 (.isub) 1 117 := ⟨by decide +kernel, rfl⟩
theorem d_mod_date_117 : cf_D k_mod_date 117 (.istore_n 3) 1 118 := ⟨by decide +kernel, rfl⟩
theorem d_mod_date_118 : cf_D k_mod_date 118 (.iinc 5 1) 3 121 := ⟨by decide +kernel, rfl⟩
theorem d_mod_date_121 : cf_D k_mod_date 121 (.goto (-26)) 3 124 := ⟨by decide +kernel, rfl⟩
theorem d_mod_date_124 : cf_D k_mod_date 124 (.iload_n 2) 1 125 := ⟨by decide +kernel, rfl⟩
theorem d_mod_date_125 : cf_D k_mod_date 125 (.ifCond .ne 8) 3 128 := ⟨by decide +kernel, rfl⟩
theorem d_mod_date_128 : cf_D k_mod_date 128 (.iload 4) 2 130 := ⟨by decide +kernel, rfl⟩
theorem d_mod_date_130 : cf_D k_mod_date 130 (.goto 16) 3 133 := ⟨by decide +kernel, rfl⟩
theorem d_mod_date_133 : cf_D k_mod_date 133 (.iload_n 2) 1 134 := ⟨by decide +kernel, rfl⟩
theorem d_mod_date_134 : cf_D k_mod_date 134 (.iconst 1) 1 135 := ⟨by decide +kernel, rfl⟩
theorem d_mod_date_135 : cf_D k_mod_date 135 (.if_icmp .ne 8) 3 138 := ⟨by decide +kernel, rfl⟩
theorem d_mod_date_138 : cf_D k_mod_date 138 (.iload 5) 2 140 := ⟨by decide +kernel, rfl⟩
theorem d_mod_date_140 : cf_D k_mod_date 140 (.goto 6) 3 143 := ⟨by decide +kernel, rfl⟩
theorem d_mod_date_143 : cf_D k_mod_date 143 (.iload_n 3) 1 144 := ⟨by decide +kernel, rfl⟩
theorem d_mod_date_144 : cf_D k_mod_date 144 (.iconst 1) 1 145 := ⟨by decide +kernel, rfl⟩
theorem d_mod_date_145 : cf_D k_mod_date 145 (.iadd) 1 146 := ⟨by decide +kernel, rfl⟩
theorem d_mod_date_146 : cf_D k_mod_date 146 (.ireturn) 1 147 := ⟨by decide +kernel, rfl⟩
theorem d_mod_firstSerial_0 : cf_D k_mod_firstSerial 0 (.aload_n 0) 1 1 := ⟨by decide +kernel, rfl⟩
theorem d_mod_firstSerial_1 : cf_D k_mod_firstSerial 1 (.getfield 112) 3 4 := ⟨by decide +kernel, rfl⟩
theorem d_mod_firstSerial_4 : cf_D k_mod_firstSerial 4 (.ifCond .eq 7) 3 7 := ⟨by decide +kernel, rfl⟩
theorem d_mod_firstSerial_7 : cf_D k_mod_firstSerial 7 (.iconst 0) 1 8 := ⟨by decide +kernel, rfl⟩
theorem d_mod_firstSerial_8 : cf_D k_mod_firstSerial 8 (.goto 4) 3 11 := ⟨by decide +kernel, rfl⟩
theorem d_mod_firstSerial_11 : cf_D k_mod_firstSerial 11 (.iconst 1) 1 12 := ⟨by decide +kernel, rfl⟩
theorem d_mod_firstSerial_12 : cf_D k_mod_firstSerial 12 (.ireturn) 1 13 := ⟨by decide +kernel, rfl⟩
theorem d_mod_lastSerial_0 : cf_D k_mod_lastSerial 0 (.aload_n 0) 1 1 := ⟨by decide +kernel, rfl⟩
theorem d_mod_lastSerial_1 : cf_D k_mod_lastSerial 1 (.invokevirtual 197) 3 4 := ⟨by decide +kernel, rfl⟩
theorem d_mod_lastSerial_4 : cf_D k_mod_lastSerial 4 (.istore_n 1) 1 5 := ⟨by decide +kernel, rfl⟩
theorem d_mod_lastSerial_5 : cf_D k_mod_lastSerial 5 (.aload_n 0) 1 6 := ⟨by decide +kernel, rfl⟩
theorem d_mod_lastSerial_6 : cf_D k_mod_lastSerial 6 (.invokevirtual 200) 3 9 := ⟨by decide +kernel, rfl⟩
theorem d_mod_lastSerial_9 : cf_D k_mod_lastSerial 9 (.istore_n 2) 1 10 := ⟨by decide +kernel, rfl⟩
theorem d_mod_lastSerial_10 : cf_D k_mod_lastSerial 10 (.iload_n 2) 1 11 := ⟨by decide +kernel, rfl⟩
theorem d_mod_lastSerial_11 : cf_D k_mod_lastSerial 11 (.sipush 9999) 3 14 := ⟨by decide +kernel, rfl⟩
theorem d_mod_lastSerial_14 : cf_D k_mod_lastSerial 14 (.if_icmp .gt 17) 3 17 := ⟨by decide +kernel, rfl⟩
theorem d_mod_lastSerial_17 : cf_D k_mod_lastSerial 17 (.iload_n 1) 1 18 := ⟨by decide +kernel, rfl⟩
theorem d_mod_lastSerial_18 : cf_D k_mod_lastSerial 18 (.aload_n 0) 1 19 := ⟨by decide +kernel, rfl⟩
theorem d_mod_lastSerial_19 : cf_D k_mod_lastSerial 19 (.iload_n 2) 1 20 := ⟨by decide +kernel, rfl⟩
theorem d_mod_lastSerial_20 : cf_D k_mod_lastSerial 20 (.invokevirtual 203) 3 23 := ⟨by decide +kernel, rfl⟩
theorem d_mod_lastSerial_23 : cf_D k_mod_lastSerial 23 (.iadd) 1 24 := ⟨by decide +kernel, rfl⟩
theorem d_mod_lastSerial_24 : cf_D k_mod_lastSerial 24 (.istore_n 1) 1 25 := ⟨by decide +kernel, rfl⟩
theorem d_mod_lastSerial_25 : cf_D k_mod_lastSerial 25 (.iinc 2 1) 3 28 := ⟨by decide +kernel, rfl⟩
theorem d_mod_lastSerial_28 : cf_D k_mod_lastSerial 28 (.goto (-18)) 3 31 := ⟨by decide +kernel, rfl⟩
theorem d_mod_lastSerial_31 : cf_D k_mod_lastSerial 31 (.iload_n 1) 1 32 := ⟨by decide +kernel, rfl⟩
theorem d_mod_lastSerial_32 : cf_D k_mod_lastSerial 32 (.iconst 1) 1 33 := ⟨by decide +kernel, rfl⟩
theorem d_mod_lastSerial_33 : cf_D k_mod_lastSerial 33 (.isub) 1 34 := ⟨by decide +kernel, rfl⟩
theorem d_mod_lastSerial_34 : cf_D k_mod_lastSerial 34 (.ireturn) 1 35 := ⟨by decide +kernel, rfl⟩
theorem d_mod_firstYear_0 : cf_D k_mod_firstYear 0 (.aload_n 0) 1 1 := ⟨by decide +kernel, rfl⟩
theorem d_mod_firstYear_1 : cf_D k_mod_firstYear 1 (.getfield 112) 3 4 := ⟨by decide +kernel, rfl⟩
theorem d_mod_firstYear_4 : cf_D k_mod_firstYear 4 (.ifCond .eq 9) 3 7 := ⟨by decide +kernel, rfl⟩
theorem d_mod_firstYear_7 : cf_D k_mod_firstYear 7 (.sipush 1904) 3 10 := ⟨by decide +kernel, rfl⟩
theorem d_mod_firstYear_10 : cf_D k_mod_firstYear 10 (.goto 6) 3 13 := ⟨by decide +kernel, rfl⟩
theorem d_mod_firstYear_13 : cf_D k_mod_firstYear 13 (.sipush 1900) 3 16 := ⟨by decide +kernel, rfl⟩
theorem d_mod_firstYear_16 : cf_D k_mod_firstYear 16 (.ireturn) 1 17 := ⟨by decide +kernel, rfl⟩
theorem d_mod_daysOfYear_0 : cf_D k_mod_daysOfYear 0 (.sipush 337) 3 3 := ⟨by decide +kernel, rfl⟩
theorem d_mod_daysOfYear_3 : cf_D k_mod_daysOfYear 3 (.aload_n 0) 1 4 := ⟨by decide +kernel, rfl⟩
theorem d_mod_daysOfYear_4 : cf_D k_mod_daysOfYear 4 (.iload_n 1) 1 5 := ⟨by decide +kernel, rfl⟩
theorem d_mod_daysOfYear_5 : cf_D k_mod_daysOfYear 5 (.iconst 2) 1 6 := ⟨by decide +kernel, rfl⟩
theorem d_mod_daysOfYear_6 : cf_D k_mod_daysOfYear 6 (.invokevirtual 194) 3 9 := ⟨by decide +kernel, rfl⟩
theorem d_mod_daysOfYear_9 : cf_D k_mod_daysOfYear 9 (.iadd) 1 10 := ⟨by decide +kernel, rfl⟩
theorem d_mod_daysOfYear_10 : cf_D k_mod_daysOfYear 10 (.ireturn) 1 11 := ⟨by decide +kernel, rfl⟩
theorem d_mod_daysOf_0 : cf_D k_mod_daysOf 0 (.iload_n 2) 1 1 := ⟨by decide +kernel, rfl⟩
theorem d_mod_daysOf_1 : cf_D k_mod_daysOf 1 (.iconst 2) 1 2 := ⟨by decide +kernel, rfl⟩
theorem d_mod_daysOf_2 : cf_D k_mod_daysOf 2 (.if_icmp .ne 32) 3 5 := ⟨by decide +kernel, rfl⟩
theorem d_mod_daysOf_5 : cf_D k_mod_daysOf 5 (.iload_n 1) 1 6 := ⟨by decide +kernel, rfl⟩
theorem d_mod_daysOf_6 : cf_D k_mod_daysOf 6 (.invokestatic 191) 3 9 := ⟨by decide +kernel, rfl⟩
theorem d_mod_daysOf_9 : cf_D k_mod_daysOf 9 (.ifCond .ne 17) 3 12 := ⟨by decide +kernel, rfl⟩
theorem d_mod_daysOf_12 : cf_D k_mod_daysOf 12 (.aload_n 0) 1 13 := ⟨by decide +kernel, rfl⟩
theorem d_mod_daysOf_13 : cf_D k_mod_daysOf 13 (.getfield 112) 3 16 := ⟨by decide +kernel, rfl⟩
theorem d_mod_daysOf_16 : cf_D k_mod_daysOf 16 (.ifCond .ne 15) 3 19 := ⟨by decide +kernel, rfl⟩
theorem d_mod_daysOf_19 : cf_D k_mod_daysOf 19 (.iload_n 1) 1 20 := ⟨by decide +kernel, rfl⟩
theorem d_mod_daysOf_20 : cf_D k_mod_daysOf 20 (.sipush 1900) 3 23 := ⟨by decide +kernel, rfl⟩
theorem d_mod_daysOf_23 : cf_D k_mod_daysOf 23 (.if_icmp .ne 8) 3 26 := ⟨by decide +kernel, rfl⟩
theorem d_mod_daysOf_26 : cf_D k_mod_daysOf 26 (.bipush 29) 2 28 := ⟨by decide +kernel, rfl⟩
theorem d_mod_daysOf_28 : cf_D k_mod_daysOf 28 (.goto 5) 3 31 := ⟨by decide +kernel, rfl⟩
theorem d_mod_daysOf_31 : cf_D k_mod_daysOf 31 (.bipush 28) 2 33 := ⟨by decide +kernel, rfl⟩
theorem d_mod_daysOf_33 : cf_D k_mod_daysOf 33 (.ireturn) 1 34 := ⟨by decide +kernel, rfl⟩
theorem d_mod_daysOf_34 : cf_D k_mod_daysOf 34 (.iload_n 2) 1 35 := ⟨by decide +kernel, rfl⟩
theorem d_mod_daysOf_35 : cf_D k_mod_daysOf 35 (.iconst 4) 1 36 := ⟨by decide +kernel, rfl⟩
theorem d_mod_daysOf_36 : cf_D k_mod_daysOf 36 (.if_icmp .eq 21) 3 39 := ⟨by decide +kernel, rfl⟩
theorem d_mod_daysOf_39 : cf_D k_mod_daysOf 39 (.iload_n 2) 1 40 := ⟨by decide +kernel, rfl⟩
theorem d_mod_daysOf_40 : cf_D k_mod_daysOf 40 (.bipush 6) 2 42 := ⟨by decide +kernel, rfl⟩
theorem d_mod_daysOf_42 : cf_D k_mod_daysOf 42 (.if_icmp .eq 15) 3 45 := ⟨by decide +kernel, rfl⟩
theorem d_mod_daysOf_45 : cf_D k_mod_daysOf 45 (.iload_n 2) 1 46 := ⟨by decide +kernel, rfl⟩
theorem d_mod_daysOf_46 : cf_D k_mod_daysOf 46 (.bipush 9) 2 48 := ⟨by decide +kernel, rfl⟩
theorem d_mod_daysOf_48 : cf_D k_mod_daysOf 48 (.if_icmp .eq 9) 3 51 := ⟨by decide +kernel, rfl⟩
theorem d_mod_daysOf_51 : cf_D k_mod_daysOf 51 (.iload_n 2) 1 52 := ⟨by decide +kernel, rfl⟩
theorem d_mod_daysOf_52 : cf_D k_mod_daysOf 52 (.bipush 11) 2 54 := ⟨by decide +kernel, rfl⟩
theorem d_mod_daysOf_54 : cf_D k_mod_daysOf 54 (.if_icmp .ne 8) 3 57 := ⟨by decide +kernel, rfl⟩
theorem d_mod_daysOf_57 : cf_D k_mod_daysOf 57 (.bipush 30) 2 59 := ⟨by decide +kernel, rfl⟩
theorem d_mod_daysOf_59 : cf_D k_mod_daysOf 59 (.goto 5) 3 62 := ⟨by decide +kernel, rfl⟩
theorem d_mod_daysOf_62 : cf_D k_mod_daysOf 62 (.bipush 31) 2 64 := ⟨by decide +kernel, rfl⟩
theorem d_mod_daysOf_64 : cf_D k_mod_daysOf 64 (.ireturn) 1 65 := ⟨by decide +kernel, rfl⟩
theorem d_mod_leap_0 : cf_D k_mod_leap 0 (.iload_n 0) 1 1 := ⟨by decide +kernel, rfl⟩
theorem d_mod_leap_1 : cf_D k_mod_leap 1 (.iconst 4) 1 2 := ⟨by decide +kernel, rfl⟩
theorem d_mod_leap_2 : cf_D k_mod_leap 2 (.irem) 1 3 := ⟨by decide +kernel, rfl⟩
theorem d_mod_leap_3 : cf_D k_mod_leap 3 (.ifCond .ne 22) 3 6 := ⟨by decide +kernel, rfl⟩
theorem d_mod_leap_6 : cf_D k_mod_leap 6 (.iload_n 0) 1 7 := ⟨by decide +kernel, rfl⟩
theorem d_mod_leap_7 : cf_D k_mod_leap 7 (.bipush 100) 2 9 := ⟨by decide +kernel, rfl⟩
theorem d_mod_leap_9 : cf_D k_mod_leap 9 (.irem) 1 10 := ⟨by decide +kernel, rfl⟩
theorem d_mod_leap_10 : cf_D k_mod_leap 10 (.ifCond .ne 11) 3 13 := ⟨by decide +kernel, rfl⟩
theorem d_mod_leap_13 : cf_D k_mod_leap 13 (.iload_n 0) 1 14 := ⟨by decide +kernel, rfl⟩
theorem d_mod_leap_14 : cf_D k_mod_leap 14 (.sipush 400) 3 17 := ⟨by decide +kernel, rfl⟩
theorem d_mod_leap_17 : cf_D k_mod_leap 17 (.irem) 1 18 := ⟨by decide +kernel, rfl⟩
theorem d_mod_leap_18 : cf_D k_mod_leap 18 (.ifCond .ne 7) 3 21 := ⟨by decide +kernel, rfl⟩
theorem d_mod_leap_21 : cf_D k_mod_leap 21 (.iconst 1) 1 22 := ⟨by decide +kernel, rfl⟩
theorem d_mod_leap_22 : cf_D k_mod_leap 22 (.goto 4) 3 25 := ⟨by decide +kernel, rfl⟩
theorem d_mod_leap_25 : cf_D k_mod_leap 25 (.iconst 0) 1 26 := ⟨by decide +kernel, rfl⟩
theorem d_mod_leap_26 : cf_D k_mod_leap 26 (.ireturn) 1 27 := ⟨by decide +kernel, rfl⟩
theorem d_mod_serial_0 : cf_D k_mod_serial 0 (.iload_n 1) 1 1 := ⟨by decide +kernel, rfl⟩
theorem d_mod_serial_1 : cf_D k_mod_serial 1 (.aload_n 0) 1 2 := ⟨by decide +kernel, rfl⟩
theorem d_mod_serial_2 : cf_D k_mod_serial 2 (.invokevirtual 200) 3 5 := ⟨by decide +kernel, rfl⟩
theorem d_mod_serial_5 : cf_D k_mod_serial 5 (.if_icmp .lt 36) 3 8 := ⟨by decide +kernel, rfl⟩
theorem d_mod_serial_8 : cf_D k_mod_serial 8 (.iload_n 1) 1 9 := ⟨by decide +kernel, rfl⟩
theorem d_mod_serial_9 : cf_D k_mod_serial 9 (.sipush 9999) 3 12 := ⟨by decide +kernel, rfl⟩
theorem d_mod_serial_12 : cf_D k_mod_serial 12 (.if_icmp .gt 29) 3 15 := ⟨by decide +kernel, rfl⟩
theorem d_mod_serial_15 : cf_D k_mod_serial 15 (.iload_n 2) 1 16 := ⟨by decide +kernel, rfl⟩
theorem d_mod_serial_16 : cf_D k_mod_serial 16 (.iconst 1) 1 17 := ⟨by decide +kernel, rfl⟩
theorem d_mod_serial_17 : cf_D k_mod_serial 17 (.if_icmp .lt 24) 3 20 := ⟨by decide +kernel, rfl⟩
theorem d_mod_serial_20 : cf_D k_mod_serial 20 (.iload_n 2) 1 21 := ⟨by decide +kernel, rfl⟩
theorem d_mod_serial_21 : cf_D k_mod_serial 21 (.bipush 12) 2 23 := ⟨by decide +kernel, rfl⟩
theorem d_mod_serial_23 : cf_D k_mod_serial 23 (.if_icmp .gt 18) 3 26 := ⟨by decide +kernel, rfl⟩
theorem d_mod_serial_26 : cf_D k_mod_serial 26 (.iload_n 3) 1 27 := ⟨by decide +kernel, rfl⟩
theorem d_mod_serial_27 : cf_D k_mod_serial 27 (.iconst 1) 1 28 := ⟨by decide +kernel, rfl⟩
theorem d_mod_serial_28 : cf_D k_mod_serial 28 (.if_icmp .lt 13) 3 31 := ⟨by decide +kernel, rfl⟩
theorem d_mod_serial_31 : cf_D k_mod_serial 31 (.iload_n 3) 1 32 := ⟨by decide +kernel, rfl⟩
theorem d_mod_serial_32 : cf_D k_mod_serial 32 (.aload_n 0) 1 33 := ⟨by decide +kernel, rfl⟩
theorem d_mod_serial_33 : cf_D k_mod_serial 33 (.iload_n 1) 1 34 := ⟨by decide +kernel, rfl⟩
theorem d_mod_serial_34 : cf_D k_mod_serial 34 (.iload_n 2) 1 35 := ⟨by decide +kernel, rfl⟩
theorem d_mod_serial_35 : cf_D k_mod_serial 35 (.invokevirtual 194) 3 38 := ⟨by decide +kernel, rfl⟩
theorem d_mod_serial_38 : cf_D k_mod_serial 38 (.if_icmp .le 6) 3 41 := ⟨by decide +kernel, rfl⟩
theorem d_mod_serial_41 : cf_D k_mod_serial 41 (.bipush (-3)) 2 43 := ⟨by decide +kernel, rfl⟩
theorem d_mod_serial_43 : cf_D k_mod_serial 43 (.ireturn) 1 44 := ⟨by decide +kernel, rfl⟩
theorem d_mod_serial_44 : cf_D k_mod_serial 44 (.aload_n 0) 1 45 := ⟨by decide +kernel, rfl⟩
theorem d_mod_serial_45 : cf_D k_mod_serial 45 (.invokevirtual 197) 3 48 := ⟨by decide +kernel, rfl⟩
theorem d_mod_serial_48 : cf_D k_mod_serial 48 (.iload_n 3) 1 49 := ⟨by decide +kernel, rfl⟩
theorem d_mod_serial_49 : cf_D k_mod_serial 49 (.iadd) 1 50 := ⟨by decide +kernel, rfl⟩
theorem d_mod_serial_50 : cf_D k_mod_serial 50 (.iconst 1) 1 51 := ⟨by decide +kernel, rfl⟩
theorem d_mod_serial_51 : cf_D k_mod_serial 51 (.isub) 1 52 := ⟨by decide +kernel, rfl⟩
theorem d_mod_serial_52 : cf_D k_mod_serial 52 (.istore 4) 2 54 := ⟨by decide +kernel, rfl⟩
theorem d_mod_serial_54 : cf_D k_mod_serial 54 (.aload_n 0) 1 55 := ⟨by decide +kernel, rfl⟩
theorem d_mod_serial_55 : cf_D k_mod_serial 55 (.invokevirtual 200) 3 58 := ⟨by decide +kernel, rfl⟩
theorem d_mod_serial_58 : cf_D k_mod_serial 58 (.istore 5) 2 60 := ⟨by decide +kernel, rfl⟩
theorem d_mod_serial_60 : cf_D k_mod_serial 60 (.iload 5) 2 62 := ⟨by decide +kernel, rfl⟩
theorem d_mod_serial_62 : cf_D k_mod_serial 62 (.iload_n 1) 1 63 := ⟨by decide +kernel, rfl⟩
theorem d_mod_serial_63 : cf_D k_mod_serial 63 (.if_icmp .ge 20) 3 66 := ⟨by decide +kernel, rfl⟩
theorem d_mod_serial_66 : cf_D k_mod_serial 66 (.iload 4) 2 68 := ⟨by decide +kernel, rfl⟩
theorem d_mod_serial_68 : cf_D k_mod_serial 68 (.aload_n 0) 1 69 := ⟨by decide +kernel, rfl⟩
theorem d_mod_serial_69 : cf_D k_mod_serial 69 (.iload 5) 2 71 := ⟨by decide +kernel, rfl⟩
theorem d_mod_serial_71 : cf_D k_mod_serial 71 (.invokevirtual 203) 3 74 := ⟨by decide +kernel, rfl⟩
theorem d_mod_serial_74 : cf_D k_mod_serial 74 (.iadd) 1 75 := ⟨by decide +kernel, rfl⟩
theorem d_mod_serial_75 : cf_D k_mod_serial 75 (.istore 4) 2 77 := ⟨by decide +kernel, rfl⟩
theorem d_mod_serial_77 : cf_D k_mod_serial 77 (.iinc 5 1) 3 80 := ⟨by decide +kernel, rfl⟩
theorem d_mod_serial_80 : cf_D k_mod_serial 80 (.goto (-20)) 3 83 := ⟨by decide +kernel, rfl⟩
theorem d_mod_serial_83 : cf_D k_mod_serial 83 (.iconst 1) 1 84 := ⟨by decide +kernel, rfl⟩
theorem d_mod_serial_84 : cf_D k_mod_serial 84 (.istore 5) 2 86 := ⟨by decide +kernel, rfl⟩
theorem d_mod_serial_86 : cf_D k_mod_serial 86 (.iload 5) 2 88 := ⟨by decide +kernel, rfl⟩
theorem d_mod_serial_88 : cf_D k_mod_serial 88 (.iload_n 2) 1 89 := ⟨by decide +kernel, rfl⟩
theorem d_mod_serial_89 : cf_D k_mod_serial 89 (.if_icmp .ge 21) 3 92 := ⟨by decide +kernel, rfl⟩
theorem d_mod_serial_92 : cf_D k_mod_serial 92 (.iload 4) 2 94 := ⟨by decide +kernel, rfl⟩
theorem d_mod_serial_94 : cf_D k_mod_serial 94 (.aload_n 0) 1 95 := ⟨by decide +kernel, rfl⟩
theorem d_mod_serial_95 : cf_D k_mod_serial 95 (.iload_n 1) 1 96 := ⟨by decide +kernel, rfl⟩
theorem d_mod_serial_96 : cf_D k_mod_serial 96 (.iload 5) 2 98 := ⟨by decide +kernel, rfl⟩
theorem d_mod_serial_98 : cf_D k_mod_serial 98 (.invokevirtual 194) 3 101 := ⟨by decide +kernel, rfl⟩
theorem d_mod_serial_101 : cf_D k_mod_serial 101 (.iadd) 1 102 := ⟨by decide +kernel, rfl⟩
theorem d_mod_serial_102 : cf_D k_mod_serial 102 (.istore 4) 2 104 := ⟨by decide +kernel, rfl⟩
theorem d_mod_serial_104 : cf_D k_mod_serial 104 (.iinc 5 1) 3 107 := ⟨by decide +kernel, rfl⟩
theorem d_mod_serial_107 : cf_D k_mod_serial 107 (.goto (-21)) 3 110 := ⟨by decide +kernel, rfl⟩
theorem d_mod_serial_110 : cf_D k_mod_serial 110 (.iload 4) 2 112 := ⟨by decide +kernel, rfl⟩
theorem d_mod_serial_112 : cf_D k_mod_serial 112 (.ireturn) 1 113 := ⟨by decide +kernel, rfl⟩
theorem d_mod_show_0 : cf_D k_mod_show 0 (.aload_n 0) 1 1 := ⟨by decide +kernel, rfl⟩
theorem d_mod_show_1 : cf_D k_mod_show 1 (.iconst 0) 1 2 := ⟨by decide +kernel, rfl⟩
theorem d_mod_show_2 : cf_D k_mod_show 2 (.putfield 129) 3 5 := ⟨by decide +kernel, rfl⟩
theorem d_mod_show_5 : cf_D k_mod_show 5 (.aload_n 0) 1 6 := ⟨by decide +kernel, rfl⟩
theorem d_mod_show_6 : cf_D k_mod_show 6 (.iconst (-1)) 1 7 := ⟨by decide +kernel, rfl⟩
theorem d_mod_show_7 : cf_D k_mod_show 7 (.putfield 28) 3 10 := ⟨by decide +kernel, rfl⟩
theorem d_mod_show_10 : cf_D k_mod_show 10 (.aload_n 0) 1 11 := ⟨by decide +kernel, rfl⟩
theorem d_mod_show_11 : cf_D k_mod_show 11 (.getfield 79) 3 14 := ⟨by decide +kernel, rfl⟩
theorem d_mod_show_14 : cf_D k_mod_show 14 (.ifCond .ne 6) 3 17 := ⟨by decide +kernel, rfl⟩
theorem d_mod_show_17 : cf_D k_mod_show 17 (.bipush (-2)) 2 19 := ⟨by decide +kernel, rfl⟩
theorem d_mod_show_19 : cf_D k_mod_show 19 (.ireturn) 1 20 := ⟨by decide +kernel, rfl⟩
theorem d_mod_show_20 : cf_D k_mod_show 20 (.lload_n 1) 1 21 := ⟨by decide +kernel, rfl⟩
theorem d_mod_show_21 : cf_D k_mod_show 21 (.ldc2_w 243) 3 24 := ⟨by decide +kernel, rfl⟩
theorem d_mod_show_24 : cf_D k_mod_show 24 (.lcmp) 1 25 := ⟨by decide +kernel, rfl⟩
theorem d_mod_show_25 : cf_D k_mod_show 25 (.ifCond .lt 11) 3 28 := ⟨by decide +kernel, rfl⟩
theorem d_mod_show_28 : cf_D k_mod_show 28 (.lload_n 1) 1 29 := ⟨by decide +kernel, rfl⟩
theorem d_mod_show_29 : cf_D k_mod_show 29 (.ldc2_w 245) 3 32 := ⟨by decide +kernel, rfl⟩
theorem d_mod_show_32 : cf_D k_mod_show 32 (.lcmp) 1 33 := ⟨by decide +kernel, rfl⟩
theorem d_mod_show_33 : cf_D k_mod_show 33 (.ifCond .le 6) 3 36 := ⟨by decide +kernel, rfl⟩
theorem d_mod_show_36 : cf_D k_mod_show 36 (.bipush (-3)) 2 38 := ⟨by decide +kernel, rfl⟩
theorem d_mod_show_38 : cf_D k_mod_show 38 (.ireturn) 1 39 := ⟨by decide +kernel, rfl⟩
theorem d_mod_show_39 : cf_D k_mod_show 39 (.aload_n 0) 1 40 := ⟨by decide +kernel, rfl⟩
theorem d_mod_show_40 : cf_D k_mod_show 40 (.lload_n 1) 1 41 := ⟨by decide +kernel, rfl⟩
theorem d_mod_show_41 : cf_D k_mod_show 41 (.invokevirtual 247) 3 44 := ⟨by decide +kernel, rfl⟩
theorem d_mod_show_44 : cf_D k_mod_show 44 (.istore_n 3) 1 45 := ⟨by decide +kernel, rfl⟩
theorem d_mod_show_45 : cf_D k_mod_show 45 (.iload_n 3) 1 46 := ⟨by decide +kernel, rfl⟩
theorem d_mod_show_46 : cf_D k_mod_show 46 (.ifCond .ge 5) 3 49 := ⟨by decide +kernel, rfl⟩
theorem d_mod_show_49 : cf_D k_mod_show 49 (.iconst (-1)) 1 50 := ⟨by decide +kernel, rfl⟩
theorem d_mod_show_50 : cf_D k_mod_show 50 (.ireturn) 1 51 := ⟨by decide +kernel, rfl⟩
theorem d_mod_show_51 : cf_D k_mod_show 51 (.aload_n 0) 1 52 := ⟨by decide +kernel, rfl⟩
theorem d_mod_show_52 : cf_D k_mod_show 52 (.getfield 79) 3 55 := ⟨by decide +kernel, rfl⟩
theorem d_mod_show_55 : cf_D k_mod_show 55 (.iconst 1) 1 56 := ⟨by decide +kernel, rfl⟩
theorem d_mod_show_56 : cf_D k_mod_show 56 (.if_icmp .le 19) 3 59 := ⟨by decide +kernel, rfl⟩
theorem d_mod_show_59 : cf_D k_mod_show 59 (.iload_n 3) 1 60 := ⟨by decide +kernel, rfl⟩
theorem d_mod_show_60 : cf_D k_mod_show 60 (.iconst 1) 1 61 := ⟨by decide +kernel, rfl⟩
theorem d_mod_show_61 : cf_D k_mod_show 61 (.if_icmp .ne 14) 3 64 := ⟨by decide +kernel, rfl⟩
theorem d_mod_show_64 : cf_D k_mod_show 64 (.aload_n 0) 1 65 := ⟨by decide +kernel, rfl⟩
theorem d_mod_show_65 : cf_D k_mod_show 65 (.invokevirtual 121) 3 68 := ⟨by decide +kernel, rfl⟩
theorem d_mod_show_68 : cf_D k_mod_show 68 (.ifCond .ne 7) 3 71 := ⟨by decide +kernel, rfl⟩
theorem d_mod_show_71 : cf_D k_mod_show 71 (.iconst 1) 1 72 := ⟨by decide +kernel, rfl⟩
theorem d_mod_show_72 : cf_D k_mod_show 72 (.goto 4) 3 75 := ⟨by decide +kernel, rfl⟩
theorem d_mod_show_75 : cf_D k_mod_show 75 (.iconst 0) 1 76 := ⟨by decide +kernel, rfl⟩
theorem d_mod_show_76 : cf_D k_mod_show 76 (.istore 4) 2 78 := ⟨by decide +kernel, rfl⟩
theorem d_mod_show_78 : cf_D k_mod_show 78 (.lload_n 1) 1 79 := ⟨by decide +kernel, rfl⟩
theorem d_mod_show_79 : cf_D k_mod_show 79 (.lconst 0) 1 80 := ⟨by decide +kernel, rfl⟩
theorem d_mod_show_80 : cf_D k_mod_show 80 (.lcmp) 1 81 := ⟨by decide +kernel, rfl⟩
theorem d_mod_show_81 : cf_D k_mod_show 81 (.ifCond .ge 12) 3 84 := ⟨by decide +kernel, rfl⟩
theorem d_mod_show_84 : cf_D k_mod_show 84 (.iload 4) 2 86 := ⟨by decide +kernel, rfl⟩
theorem d_mod_show_86 : cf_D k_mod_show 86 (.ifCond .ne 7) 3 89 := ⟨by decide +kernel, rfl⟩
theorem d_mod_show_89 : cf_D k_mod_show 89 (.iconst 1) 1 90 := ⟨by decide +kernel, rfl⟩
theorem d_mod_show_90 : cf_D k_mod_show 90 (.goto 4) 3 93 := ⟨by decide +kernel, rfl⟩
theorem d_mod_show_93 : cf_D k_mod_show 93 (.iconst 0) 1 94 := ⟨by decide +kernel, rfl⟩
theorem d_mod_show_94 : cf_D k_mod_show 94 (.istore 5) 2 96 := ⟨by decide +kernel, rfl⟩
theorem d_mod_show_96 : cf_D k_mod_show 96 (.aload_n 0) 1 97 := ⟨by decide +kernel, rfl⟩
theorem d_mod_show_97 : cf_D k_mod_show 97 (.iload_n 3) 1 98 := ⟨by decide +kernel, rfl⟩
theorem d_mod_show_98 : cf_D k_mod_show 98 (.invokevirtual 102) 3 101 := ⟨by decide +kernel, rfl⟩
theorem d_mod_show_101 : cf_D k_mod_show 101 (.istore 6) 2 103 := ⟨by decide +kernel, rfl⟩
theorem d_mod_show_103 : cf_D k_mod_show 103 (.iload 6) 2 105 := ⟨by decide +kernel, rfl⟩
theorem d_mod_show_105 : cf_D k_mod_show 105 (.iconst 2) 1 106 := ⟨by decide +kernel, rfl⟩
theorem d_mod_show_106 : cf_D k_mod_show 106 (.if_icmp .ne 14) 3 109 := ⟨by decide +kernel, rfl⟩
theorem d_mod_show_109 : cf_D k_mod_show 109 (.aload_n 0) 1 110 := ⟨by decide +kernel, rfl⟩
theorem d_mod_show_110 : cf_D k_mod_show 110 (.iload_n 3) 1 111 := ⟨by decide +kernel, rfl⟩
theorem d_mod_show_111 : cf_D k_mod_show 111 (.lload_n 1) 1 112 := ⟨by decide +kernel, rfl⟩
theorem d_mod_show_112 : cf_D k_mod_show 112 (.invokevirtual 250) 3 115 := ⟨by decide +kernel, rfl⟩
theorem d_mod_show_115 : cf_D k_mod_show 115 (.ifCond .ne 71) 3 118 := ⟨by decide +kernel, rfl⟩
theorem d_mod_show_118 : cf_D k_mod_show 118 (.iconst (-1)) 1 119 := ⟨by decide +kernel, rfl⟩
theorem d_mod_show_119 : cf_D k_mod_show 119 (.ireturn) 1 120 := ⟨by decide +kernel, rfl⟩
theorem d_mod_show_120 : cf_D k_mod_show 120 (.iload 6) 2 122 := ⟨by decide +kernel, rfl⟩
theorem d_mod_show_122 : cf_D k_mod_show 122 (.ifCond .ne 22) 3 125 := ⟨by decide +kernel, rfl⟩
theorem d_mod_show_125 : cf_D k_mod_show 125 (.iload 5) 2 127 := ⟨by decide +kernel, rfl⟩
theorem d_mod_show_127 : cf_D k_mod_show 127 (.ifCond .eq 9) 3 130 := ⟨by decide +kernel, rfl⟩
theorem d_mod_show_130 : cf_D k_mod_show 130 (.aload_n 0) 1 131 := ⟨by decide +kernel, rfl⟩
theorem d_mod_show_131 : cf_D k_mod_show 131 (.bipush 45) 2 133 := ⟨by decide +kernel, rfl⟩
theorem d_mod_show_133 : cf_D k_mod_show 133 (.invokevirtual 132) 3 136 := ⟨by decide +kernel, rfl⟩
theorem d_mod_show_136 : cf_D k_mod_show 136 (.aload_n 0) 1 137 := ⟨by decide +kernel, rfl⟩
theorem d_mod_show_137 : cf_D k_mod_show 137 (.iload_n 3) 1 138 := ⟨by decide +kernel, rfl⟩
theorem d_mod_show_138 : cf_D k_mod_show 138 (.invokevirtual 253) 3 141 := ⟨by decide +kernel, rfl⟩
theorem d_mod_show_141 : cf_D k_mod_show 141 (.goto 45) 3 144 := ⟨by decide +kernel, rfl⟩
theorem d_mod_show_144 : cf_D k_mod_show 144 (.aload_n 0) 1 145 := ⟨by decide +kernel, rfl⟩
theorem d_mod_show_145 : cf_D k_mod_show 145 (.iload_n 3) 1 146 := ⟨by decide +kernel, rfl⟩
theorem d_mod_show_146 : cf_D k_mod_show 146 (.lload_n 1) 1 147 := ⟨by decide +kernel, rfl⟩
theorem d_mod_show_147 : cf_D k_mod_show 147 (.lconst 0) 1 148 := ⟨by decide +kernel, rfl⟩
theorem d_mod_show_148 : cf_D k_mod_show 148 (.lcmp) 1 149 := ⟨by decide +kernel, rfl⟩
theorem d_mod_show_149 : cf_D k_mod_show 149 (.ifCond .ge 8) 3 152 := ⟨by decide +kernel, rfl⟩
theorem d_mod_show_152 : cf_D k_mod_show 152 (.lload_n 1) 1 153 := ⟨by decide +kernel, rfl⟩
theorem d_mod_show_153 : cf_D k_mod_show 153 (.lneg) 1 154 := ⟨by decide +kernel, rfl⟩
theorem d_mod_show_154 : cf_D k_mod_show 154 (.goto 4) 3 157 := ⟨by decide +kernel, rfl⟩
theorem d_mod_show_157 : cf_D k_mod_show 157 (.lload_n 1) 1 158 := ⟨by decide +kernel, rfl⟩
theorem d_mod_show_158 : cf_D k_mod_show 158 (.invokevirtual 256) 3 161 := ⟨by decide +kernel, rfl⟩
theorem d_mod_show_161 : cf_D k_mod_show 161 (.iload 5) 2 163 := ⟨by decide +kernel, rfl⟩
theorem d_mod_show_163 : cf_D k_mod_show 163 (.ifCond .eq 18) 3 166 := ⟨by decide +kernel, rfl⟩
theorem d_mod_show_166 : cf_D k_mod_show 166 (.aload_n 0) 1 167 := ⟨by decide +kernel, rfl⟩
theorem d_mod_show_167 : cf_D k_mod_show 167 (.getfield 148) 3 170 := ⟨by decide +kernel, rfl⟩
theorem d_mod_show_170 : cf_D k_mod_show 170 (.lconst 0) 1 171 := ⟨by decide +kernel, rfl⟩
theorem d_mod_show_171 : cf_D k_mod_show 171 (.lcmp) 1 172 := ⟨by decide +kernel, rfl⟩
theorem d_mod_show_172 : cf_D k_mod_show 172 (.ifCond .eq 9) 3 175 := ⟨by decide +kernel, rfl⟩
theorem d_mod_show_175 : cf_D k_mod_show 175 (.aload_n 0) 1 176 := ⟨by decide +kernel, rfl⟩
theorem d_mod_show_176 : cf_D k_mod_show 176 (.bipush 45) 2 178 := ⟨by decide +kernel, rfl⟩
theorem d_mod_show_178 : cf_D k_mod_show 178 (.invokevirtual 132) 3 181 := ⟨by decide +kernel, rfl⟩
theorem d_mod_show_181 : cf_D k_mod_show 181 (.aload_n 0) 1 182 := ⟨by decide +kernel, rfl⟩
theorem d_mod_show_182 : cf_D k_mod_show 182 (.iload_n 3) 1 183 := ⟨by decide +kernel, rfl⟩
theorem d_mod_show_183 : cf_D k_mod_show 183 (.invokevirtual 260) 3 186 := ⟨by decide +kernel, rfl⟩
theorem d_mod_show_186 : cf_D k_mod_show 186 (.aload_n 0) 1 187 := ⟨by decide +kernel, rfl⟩
theorem d_mod_show_187 : cf_D k_mod_show 187 (.iload_n 3) 1 188 := ⟨by decide +kernel, rfl⟩
theorem d_mod_show_188 : cf_D k_mod_show 188 (.putfield 28) 3 191 := ⟨by decide +kernel, rfl⟩
theorem d_mod_show_191 : cf_D k_mod_show 191 (.aload_n 0) 1 192 := ⟨by decide +kernel, rfl⟩
theorem d_mod_show_192 : cf_D k_mod_show 192 (.getfield 129) 3 195 := ⟨by decide +kernel, rfl⟩
theorem d_mod_show_195 : cf_D k_mod_show 195 (.ireturn) 1 196 := ⟨by decide +kernel, rfl⟩
theorem d_mod_sectionFor_0 : cf_D k_mod_sectionFor 0 (.aload_n 0) 1 1 := ⟨by decide +kernel, rfl⟩
theorem d_mod_sectionFor_1 : cf_D k_mod_sectionFor 1 (.invokevirtual 121) 3 4 := ⟨by decide +kernel, rfl⟩
theorem d_mod_sectionFor_4 : cf_D k_mod_sectionFor 4 (.ifCond .ne 51) 3 7 := ⟨by decide +kernel, rfl⟩
theorem d_mod_sectionFor_7 : cf_D k_mod_sectionFor 7 (.aload_n 0) 1 8 := ⟨by decide +kernel, rfl⟩
theorem d_mod_sectionFor_8 : cf_D k_mod_sectionFor 8 (.getfield 79) 3 11 := ⟨by decide +kernel, rfl⟩
theorem d_mod_sectionFor_11 : cf_D k_mod_sectionFor 11 (.iconst 3) 1 12 := ⟨by decide +kernel, rfl⟩
theorem d_mod_sectionFor_12 : cf_D k_mod_sectionFor 12 (.if_icmp .ne 13) 3 15 := ⟨by decide +kernel, rfl⟩
theorem d_mod_sectionFor_15 : cf_D k_mod_sectionFor 15 (.lload_n 1) 1 16 := ⟨by decide +kernel, rfl⟩
theorem d_mod_sectionFor_16 : cf_D k_mod_sectionFor 16 (.lconst 0) 1 17 := ⟨by decide +kernel, rfl⟩
theorem d_mod_sectionFor_17 : cf_D k_mod_sectionFor 17 (.lcmp) 1 18 := ⟨by decide +kernel, rfl⟩
theorem d_mod_sectionFor_18 : cf_D k_mod_sectionFor 18 (.ifCond .ne 7) 3 21 := ⟨by decide +kernel, rfl⟩
theorem d_mod_sectionFor_21 : cf_D k_mod_sectionFor 21 (.iconst 1) 1 22 := ⟨by decide +kernel, rfl⟩
theorem d_mod_sectionFor_22 : cf_D k_mod_sectionFor 22 (.goto 4) 3 25 := ⟨by decide +kernel, rfl⟩
theorem d_mod_sectionFor_25 : cf_D k_mod_sectionFor 25 (.iconst 0) 1 26 := ⟨by decide +kernel, rfl⟩
theorem d_mod_sectionFor_26 : cf_D k_mod_sectionFor 26 (.istore_n 3) 1 27 := ⟨by decide +kernel, rfl⟩
theorem d_mod_sectionFor_27 : cf_D k_mod_sectionFor 27 (.lload_n 1) 1 28 := ⟨by decide +kernel, rfl⟩
theorem d_mod_sectionFor_28 : cf_D k_mod_sectionFor 28 (.lconst 0) 1 29 := ⟨by decide +kernel, rfl⟩
theorem d_mod_sectionFor_29 : cf_D k_mod_sectionFor 29 (.lcmp) 1 30 := ⟨by decide +kernel, rfl⟩
theorem d_mod_sectionFor_30 : cf_D k_mod_sectionFor 30 (.ifCond .ge 15) 3 33 := ⟨by decide +kernel, rfl⟩
theorem d_mod_sectionFor_33 : cf_D k_mod_sectionFor 33 (.aload_n 0) 1 34 := ⟨by decide +kernel, rfl⟩
theorem d_mod_sectionFor_34 : cf_D k_mod_sectionFor 34 (.getfield 79) 3 37 := ⟨by decide +kernel, rfl⟩
theorem d_mod_sectionFor_37 : cf_D k_mod_sectionFor 37 (.iconst 1) 1 38 := ⟨by decide +kernel, rfl⟩
theorem d_mod_sectionFor_38 : cf_D k_mod_sectionFor 38 (.if_icmp .le 7) 3 41 := ⟨by decide +kernel, rfl⟩
theorem d_mod_sectionFor_41 : cf_D k_mod_sectionFor 41 (.iconst 1) 1 42 := ⟨by decide +kernel, rfl⟩
theorem d_mod_sectionFor_42 : cf_D k_mod_sectionFor 42 (.goto 12) 3 45 := ⟨by decide +kernel, rfl⟩
theorem d_mod_sectionFor_45 : cf_D k_mod_sectionFor 45 (.iload_n 3) 1 46 := ⟨by decide +kernel, rfl⟩
theorem d_mod_sectionFor_46 : cf_D k_mod_sectionFor 46 (.ifCond .eq 7) 3 49 := ⟨by decide +kernel, rfl⟩
theorem d_mod_sectionFor_49 : cf_D k_mod_sectionFor 49 (.iconst 2) 1 50 := ⟨by decide +kernel, rfl⟩
theorem d_mod_sectionFor_50 : cf_D k_mod_sectionFor 50 (.goto 4) 3 53 := ⟨by decide +kernel, rfl⟩
theorem d_mod_sectionFor_53 : cf_D k_mod_sectionFor 53 (.iconst 0) 1 54 := ⟨by decide +kernel, rfl⟩
theorem d_mod_sectionFor_54 : cf_D k_mod_sectionFor 54 (.ireturn) 1 55 := ⟨by decide +kernel, rfl⟩
theorem d_mod_sectionFor_55 : cf_D k_mod_sectionFor 55 (.iconst 0) 1 56 := ⟨by decide +kernel, rfl⟩
theorem d_mod_sectionFor_56 : cf_D k_mod_sectionFor 56 (.istore_n 3) 1 57 := ⟨by decide +kernel, rfl⟩
theorem d_mod_sectionFor_57 : cf_D k_mod_sectionFor 57 (.iload_n 3) 1 58 := ⟨by decide +kernel, rfl⟩
theorem d_mod_sectionFor_58 : cf_D k_mod_sectionFor 58 (.aload_n 0) 1 59 := ⟨by decide +kernel, rfl⟩
theorem d_mod_sectionFor_59 : cf_D k_mod_sectionFor 59 (.getfield 79) 3 62 := ⟨by decide +kernel, rfl⟩
theorem d_mod_sectionFor_62 : cf_D k_mod_sectionFor 62 (.if_icmp .ge 28) 3 65 := ⟨by decide +kernel, rfl⟩
theorem d_mod_sectionFor_65 : cf_D k_mod_sectionFor 65 (.aload_n 0) 1 66 := ⟨by decide +kernel, rfl⟩
theorem d_mod_sectionFor_66 : cf_D k_mod_sectionFor 66 (.iload_n 3) 1 67 := ⟨by decide +kernel, rfl⟩
theorem d_mod_sectionFor_67 : cf_D k_mod_sectionFor 67 (.invokevirtual 118) 3 70 := ⟨by decide +kernel, rfl⟩
theorem d_mod_sectionFor_70 : cf_D k_mod_sectionFor 70 (.ifCond .eq 12) 3 73 := ⟨by decide +kernel, rfl⟩
theorem d_mod_sectionFor_73 : cf_D k_mod_sectionFor 73 (.aload_n 0) 1 74 := ⟨by decide +kernel, rfl⟩
theorem d_mod_sectionFor_74 : cf_D k_mod_sectionFor 74 (.iload_n 3) 1 75 := ⟨by decide +kernel, rfl⟩
theorem d_mod_sectionFor_75 : cf_D k_mod_sectionFor 75 (.lload_n 1) 1 76 := ⟨by decide +kernel, rfl⟩
theorem d_mod_sectionFor_76 : cf_D k_mod_sectionFor 76 (.invokevirtual 125) 3 79 := ⟨by decide +kernel, rfl⟩
theorem d_mod_sectionFor_79 : cf_D k_mod_sectionFor 79 (.ifCond .eq 5) 3 82 := ⟨by decide +kernel, rfl⟩
theorem d_mod_sectionFor_82 : cf_D k_mod_sectionFor 82 (.iload_n 3) 1 83 := ⟨by decide +kernel, rfl⟩
theorem d_mod_sectionFor_83 : cf_D k_mod_sectionFor 83 (.ireturn) 1 84 := ⟨by decide +kernel, rfl⟩
theorem d_mod_sectionFor_84 : cf_D k_mod_sectionFor 84 (.iinc 3 1) 3 87 := ⟨by decide +kernel, rfl⟩
theorem d_mod_sectionFor_87 : cf_D k_mod_sectionFor 87 (.goto (-30)) 3 90 := ⟨by decide +kernel, rfl⟩
theorem d_mod_sectionFor_90 : cf_D k_mod_sectionFor 90 (.iconst (-1)) 1 91 := ⟨by decide +kernel, rfl⟩
theorem d_mod_sectionFor_91 : cf_D k_mod_sectionFor 91 (.ireturn) 1 92 := ⟨by decide +kernel, rfl⟩
theorem d_mod_anyCondition_0 : cf_D k_mod_anyCondition 0 (.iconst 0) 1 1 := ⟨by decide +kernel, rfl⟩
theorem d_mod_anyCondition_1 : cf_D k_mod_anyCondition 1 (.istore_n 1) 1 2 := ⟨by decide +kernel, rfl⟩
theorem d_mod_anyCondition_2 : cf_D k_mod_anyCondition 2 (.iconst 0) 1 3 := ⟨by decide +kernel, rfl⟩
theorem d_mod_anyCondition_3 : cf_D k_mod_anyCondition 3 (.istore_n 2) 1 4 := ⟨by decide +kernel, rfl⟩
theorem d_mod_anyCondition_4 : cf_D k_mod_anyCondition 4 (.iload_n 2) 1 5 := ⟨by decide +kernel, rfl⟩
theorem d_mod_anyCondition_5 : cf_D k_mod_anyCondition 5 (.aload_n 0) 1 6 := ⟨by decide +kernel, rfl⟩
theorem d_mod_anyCondition_6 : cf_D k_mod_anyCondition 6 (.getfield 79) 3 9 := ⟨by decide +kernel, rfl⟩
theorem d_mod_anyCondition_9 : cf_D k_mod_anyCondition 9 (.if_icmp .ge 27) 3 12 := ⟨by decide +kernel, rfl⟩
theorem d_mod_anyCondition_12 : cf_D k_mod_anyCondition 12 (.iload_n 1) 1 13 := ⟨by decide +kernel, rfl⟩
theorem d_mod_anyCondition_13 : cf_D k_mod_anyCondition 13 (.ifCond .ne 11) 3 16 := ⟨by decide +kernel, rfl⟩
theorem d_mod_anyCondition_16 : cf_D k_mod_anyCondition 16 (.aload_n 0) 1 17 := ⟨by decide +kernel, rfl⟩
theorem d_mod_anyCondition_17 : cf_D k_mod_anyCondition 17 (.iload_n 2) 1 18 := ⟨by decide +kernel, rfl⟩
theorem d_mod_anyCondition_18 : cf_D k_mod_anyCondition 18 (.invokevirtual 118) 3 21 := ⟨by decide +kernel, rfl⟩
theorem d_mod_anyCondition_21 : cf_D k_mod_anyCondition 21 (.ifCond .eq 7) 3 24 := ⟨by decide +kernel, rfl⟩
theorem d_mod_anyCondition_24 : cf_D k_mod_anyCondition 24 (.iconst 1) 1 25 := ⟨by decide +kernel, rfl⟩
theorem d_mod_anyCondition_25 : cf_D k_mod_anyCondition 25 (.goto 4) 3 28 := ⟨by decide +kernel, rfl⟩
theorem d_mod_anyCondition_28 : cf_D k_mod_anyCondition 28 (.iconst 0) 1 29 := ⟨by decide +kernel, rfl⟩
theorem d_mod_anyCondition_29 : cf_D k_mod_anyCondition 29 (.istore_n 1) 1 30 := ⟨by decide +kernel, rfl⟩
theorem d_mod_anyCondition_30 : cf_D k_mod_anyCondition 30 (.iinc 2 1) 3 33 := ⟨by decide +kernel, rfl⟩
theorem d_mod_anyCondition_33 : cf_D k_mod_anyCondition 33 (.goto (-29)) 3 36 := ⟨by decide +kernel, rfl⟩
theorem d_mod_anyCondition_36 : cf_D k_mod_anyCondition 36 (.iload_n 1) 1 37 := ⟨by decide +kernel, rfl⟩
theorem d_mod_anyCondition_37 : cf_D k_mod_anyCondition 37 (.ireturn) 1 38 := ⟨by decide +kernel, rfl⟩
theorem d_mod_conditional_0 : cf_D k_mod_conditional 0 (.aload_n 0) 1 1 := ⟨by decide +kernel, rfl⟩
theorem d_mod_conditional_1 : cf_D k_mod_conditional 1 (.getfield 25) 3 4 := ⟨by decide +kernel, rfl⟩
theorem d_mod_conditional_4 : cf_D k_mod_conditional 4 (.iload_n 1) 1 5 := ⟨by decide +kernel, rfl⟩
theorem d_mod_conditional_5 : cf_D k_mod_conditional 5 (.iaload) 1 6 := ⟨by decide +kernel, rfl⟩
theorem d_mod_conditional_6 : cf_D k_mod_conditional 6 (.aload_n 0) 1 7 := ⟨by decide +kernel, rfl⟩
theorem d_mod_conditional_7 : cf_D k_mod_conditional 7 (.getfield 25) 3 10 := ⟨by decide +kernel, rfl⟩
theorem d_mod_conditional_10 : cf_D k_mod_conditional 10 (.iload_n 1) 1 11 := ⟨by decide +kernel, rfl⟩
theorem d_mod_conditional_11 : cf_D k_mod_conditional 11 (.iconst 1) 1 12 := ⟨by decide +kernel, rfl⟩
theorem d_mod_conditional_12 : cf_D k_mod_conditional 12 (.iadd) 1 13 := ⟨by decide +kernel, rfl⟩
theorem d_mod_conditional_13 : cf_D k_mod_conditional 13 (.iaload) 1 14 := ⟨by decide +kernel, rfl⟩
theorem d_mod_conditional_14 : cf_D k_mod_conditional 14 (.if_icmp .ge 23) 3 17 := ⟨by decide +kernel, rfl⟩
theorem d_mod_conditional_17 : cf_D k_mod_conditional 17 (.aload_n 0) 1 18 := ⟨by decide +kernel, rfl⟩
theorem d_mod_conditional_18 : cf_D k_mod_conditional 18 (.getfield 16) 3 21 := ⟨by decide +kernel, rfl⟩
theorem d_mod_conditional_21 : cf_D k_mod_conditional 21 (.aload_n 0) 1 22 := ⟨by decide +kernel, rfl⟩
theorem d_mod_conditional_22 : cf_D k_mod_conditional 22 (.getfield 25) 3 25 := ⟨by decide +kernel, rfl⟩
theorem d_mod_conditional_25 : cf_D k_mod_conditional 25 (.iload_n 1) 1 26 := ⟨by decide +kernel, rfl⟩
theorem d_mod_conditional_26 : cf_D k_mod_conditional 26 (.iaload) 1 27 := ⟨by decide +kernel, rfl⟩
theorem d_mod_conditional_27 : cf_D k_mod_conditional 27 (.iaload) 1 28 := ⟨by decide +kernel, rfl⟩
theorem d_mod_conditional_28 : cf_D k_mod_conditional 28 (.bipush 7) 2 30 := ⟨by decide +kernel, rfl⟩
theorem d_mod_conditional_30 : cf_D k_mod_conditional 30 (.if_icmp .ne 7) 3 33 := ⟨by decide +kernel, rfl⟩
theorem d_mod_conditional_33 : cf_D k_mod_conditional 33 (.iconst 1) 1 34 := ⟨by decide +kernel, rfl⟩
theorem d_mod_conditional_34 : cf_D k_mod_conditional 34 (.goto 4) 3 37 := ⟨by decide +kernel, rfl⟩
theorem d_mod_conditional_37 : cf_D k_mod_conditional 37 (.iconst 0) 1 38 := ⟨by decide +kernel, rfl⟩
theorem d_mod_conditional_38 : cf_D k_mod_conditional 38 (.ireturn) 1 39 := ⟨by decide +kernel, rfl⟩
theorem d_mod_holds_0 : cf_D k_mod_holds 0 (.aload_n 0) 1 1 := ⟨by decide +kernel, rfl⟩
theorem d_mod_holds_1 : cf_D k_mod_holds 1 (.getfield 22) 3 4 := ⟨by decide +kernel, rfl⟩
theorem d_mod_holds_4 : cf_D k_mod_holds 4 (.aload_n 0) 1 5 := ⟨by decide +kernel, rfl⟩
theorem d_mod_holds_5 : cf_D k_mod_holds 5 (.getfield 25) 3 8 := ⟨by decide +kernel, rfl⟩
theorem d_mod_holds_8 : cf_D k_mod_holds 8 (.iload_n 1) 1 9 := ⟨by decide +kernel, rfl⟩
theorem d_mod_holds_9 : cf_D k_mod_holds 9 (.iaload) 1 10 := ⟨by decide +kernel, rfl⟩
theorem d_mod_holds_10 : cf_D k_mod_holds 10 (.iaload) 1 11 := ⟨by decide +kernel, rfl⟩
theorem d_mod_holds_11 : cf_D k_mod_holds 11 (.i2l) 1 12 := ⟨by decide +kernel, rfl⟩
theorem d_mod_holds_12 : cf_D k_mod_holds 12 (.ldc2_w 116) 3 15 := ⟨by decide +kernel, rfl⟩
theorem d_mod_holds_15 : cf_D k_mod_holds 15 (.lmul) 1 16 := ⟨by decide +kernel, rfl⟩
theorem d_mod_holds_16 : cf_D k_mod_holds 16 (.lstore 4) 2 18 := ⟨by decide +kernel, rfl⟩
theorem d_mod_holds_18 : cf_D k_mod_holds 18 (.aload_n 0) 1 19 := ⟨by decide +kernel, rfl⟩
theorem d_mod_holds_19 : cf_D k_mod_holds 19 (.getfield 19) 3 22 := ⟨by decide +kernel, rfl⟩
theorem d_mod_holds_22 : cf_D k_mod_holds 22 (.aload_n 0) 1 23 := ⟨by decide +kernel, rfl⟩
theorem d_mod_holds_23 : cf_D k_mod_holds 23 (.getfield 25) 3 26 := ⟨by decide +kernel, rfl⟩
theorem d_mod_holds_26 : cf_D k_mod_holds 26 (.iload_n 1) 1 27 := ⟨by decide +kernel, rfl⟩
theorem d_mod_holds_27 : cf_D k_mod_holds 27 (.iaload) 1 28 := ⟨by decide +kernel, rfl⟩
theorem d_mod_holds_28 : cf_D k_mod_holds 28 (.iaload) 1 29 := ⟨by decide +kernel, rfl⟩
theorem d_mod_holds_29 : cf_D k_mod_holds 29 (.istore 6) 2 31 := ⟨by decide +kernel, rfl⟩
theorem d_mod_holds_31 : cf_D k_mod_holds 31 (.iload 6) 2 33 := ⟨by decide +kernel, rfl⟩
theorem d_mod_holds_33 : cf_D k_mod_holds 33 (.iconst 1) 1 34 := ⟨by decide +kernel, rfl⟩
theorem d_mod_holds_34 : cf_D k_mod_holds 34 (.if_icmp .ne 18) 3 37 := ⟨by decide +kernel, rfl⟩
theorem d_mod_holds_37 : cf_D k_mod_holds 37 (.lload_n 2) 1 38 := ⟨by decide +kernel, rfl⟩
theorem d_mod_holds_38 : cf_D k_mod_holds 38 (.lload 4) 2 40 := ⟨by decide +kernel, rfl⟩
theorem d_mod_holds_40 : cf_D k_mod_holds 40 (.lcmp) 1 41 := ⟨by decide +kernel, rfl⟩
theorem d_mod_holds_41 : cf_D k_mod_holds 41 (.ifCond .ge 7) 3 44 := ⟨by decide +kernel, rfl⟩
theorem d_mod_holds_44 : cf_D k_mod_holds 44 (.iconst 1) 1 45 := ⟨by decide +kernel, rfl⟩
theorem d_mod_holds_45 : cf_D k_mod_holds 45 (.goto 103) 3 48 := ⟨by decide +kernel, rfl⟩
theorem d_mod_holds_48 : cf_D k_mod_holds 48 (.iconst 0) 1 49 := ⟨by decide +kernel, rfl⟩
theorem d_mod_holds_49 : cf_D k_mod_holds 49 (.goto 99) 3 52 := ⟨by decide +kernel, rfl⟩
theorem d_mod_holds_52 : cf_D k_mod_holds 52 (.iload 6) 2 54 := ⟨by decide +kernel, rfl⟩
theorem d_mod_holds_54 : cf_D k_mod_holds 54 (.iconst 2) 1 55 := ⟨by decide +kernel, rfl⟩
theorem d_mod_holds_55 : cf_D k_mod_holds 55 (.if_icmp .ne 18) 3 58 := ⟨by decide +kernel, rfl⟩
theorem d_mod_holds_58 : cf_D k_mod_holds 58 (.lload_n 2) 1 59 := ⟨by decide +kernel, rfl⟩
theorem d_mod_holds_59 : cf_D k_mod_holds 59 (.lload 4) 2 61 := ⟨by decide +kernel, rfl⟩
theorem d_mod_holds_61 : cf_D k_mod_holds 61 (.lcmp) 1 62 := ⟨by decide +kernel, rfl⟩
theorem d_mod_holds_62 : cf_D k_mod_holds 62 (.ifCond .gt 7) 3 65 := ⟨by decide +kernel, rfl⟩
theorem d_mod_holds_65 : cf_D k_mod_holds 65 (.iconst 1) 1 66 := ⟨by decide +kernel, rfl⟩
theorem d_mod_holds_66 : cf_D k_mod_holds 66 (.goto 82) 3 69 := ⟨by decide +kernel, rfl⟩
theorem d_mod_holds_69 : cf_D k_mod_holds 69 (.iconst 0) 1 70 := ⟨by decide +kernel, rfl⟩
theorem d_mod_holds_70 : cf_D k_mod_holds 70 (.goto 78) 3 73 := ⟨by decide +kernel, rfl⟩
theorem d_mod_holds_73 : cf_D k_mod_holds 73 (.iload 6) 2 75 := ⟨by decide +kernel, rfl⟩
theorem d_mod_holds_75 : cf_D k_mod_holds 75 (.iconst 3) 1 76 := ⟨by decide +kernel, rfl⟩
theorem d_mod_holds_76 : cf_D k_mod_holds 76 (.if_icmp .ne 18) 3 79 := ⟨by decide +kernel, rfl⟩
theorem d_mod_holds_79 : cf_D k_mod_holds 79 (.lload_n 2) 1 80 := ⟨by decide +kernel, rfl⟩
theorem d_mod_holds_80 : cf_D k_mod_holds 80 (.lload 4) 2 82 := ⟨by decide +kernel, rfl⟩
theorem d_mod_holds_82 : cf_D k_mod_holds 82 (.lcmp) 1 83 := ⟨by decide +kernel, rfl⟩
theorem d_mod_holds_83 : cf_D k_mod_holds 83 (.ifCond .le 7) 3 86 := ⟨by decide +kernel, rfl⟩
theorem d_mod_holds_86 : cf_D k_mod_holds 86 (.iconst 1) 1 87 := ⟨by decide +kernel, rfl⟩
theorem d_mod_holds_87 : cf_D k_mod_holds 87 (.goto 61) 3 90 := ⟨by decide +kernel, rfl⟩
theorem d_mod_holds_90 : cf_D k_mod_holds 90 (.iconst 0) 1 91 := ⟨by decide +kernel, rfl⟩
theorem d_mod_holds_91 : cf_D k_mod_holds 91 (.goto 57) 3 94 := ⟨by decide +kernel, rfl⟩
theorem d_mod_holds_94 : cf_D k_mod_holds 94 (.iload 6) 2 96 := ⟨by decide +kernel, rfl⟩
theorem d_mod_holds_96 : cf_D k_mod_holds 96 (.iconst 4) 1 97 := ⟨by decide +kernel, rfl⟩
theorem d_mod_holds_97 : cf_D k_mod_holds 97 (.if_icmp .ne 18) 3 100 := ⟨by decide +kernel, rfl⟩
theorem d_mod_holds_100 : cf_D k_mod_holds 100 (.lload_n 2) 1 101 := ⟨by decide +kernel, rfl⟩
theorem d_mod_holds_101 : cf_D k_mod_holds 101 (.lload 4) 2 103 := ⟨by decide +kernel, rfl⟩
theorem d_mod_holds_103 : cf_D k_mod_holds 103 (.lcmp) 1 104 := ⟨by decide +kernel, rfl⟩
theorem d_mod_holds_104 : cf_D k_mod_holds 104 (.ifCond .lt 7) 3 107 := ⟨by decide +kernel, rfl⟩
theorem d_mod_holds_107 : cf_D k_mod_holds 107 (.iconst 1) 1 108 := ⟨by decide +kernel, rfl⟩
theorem d_mod_holds_108 : cf_D k_mod_holds 108 (.goto 40) 3 111 := ⟨by decide +kernel, rfl⟩
theorem d_mod_holds_111 : cf_D k_mod_holds 111 (.iconst 0) 1 112 := ⟨by decide +kernel, rfl⟩
theorem d_mod_holds_112 : cf_D k_mod_holds 112 (.goto 36) 3 115 := ⟨by decide +kernel, rfl⟩
theorem d_mod_holds_115 : cf_D k_mod_holds 115 (.iload 6) 2 117 := ⟨by decide +kernel, rfl⟩
theorem d_mod_holds_117 : cf_D k_mod_holds 117 (.iconst 5) 1 118 := ⟨by decide +kernel, rfl⟩
theorem d_mod_holds_118 : cf_D k_mod_holds 118 (.if_icmp .ne 18) 3 121 := ⟨by decide +kernel, rfl⟩
theorem d_mod_holds_121 : cf_D k_mod_holds 121 (.lload_n 2) 1 122 := ⟨by decide +kernel, rfl⟩
theorem d_mod_holds_122 : cf_D k_mod_holds 122 (.lload 4) 2 124 := ⟨by decide +kernel, rfl⟩
theorem d_mod_holds_124 : cf_D k_mod_holds 124 (.lcmp) 1 125 := ⟨by decide +kernel, rfl⟩
theorem d_mod_holds_125 : cf_D k_mod_holds 125 (.ifCond .ne 7) 3 128 := ⟨by decide +kernel, rfl⟩
theorem d_mod_holds_128 : cf_D k_mod_holds 128 (.iconst 1) 1 129 := ⟨by decide +kernel, rfl⟩
theorem d_mod_holds_129 : cf_D k_mod_holds 129 (.goto 19) 3 132 := ⟨by decide +kernel, rfl⟩
theorem d_mod_holds_132 : cf_D k_mod_holds 132 (.iconst 0) 1 133 := ⟨by decide +kernel, rfl⟩
theorem d_mod_holds_133 : cf_D k_mod_holds 133 (.goto 15) 3 136 := ⟨by decide +kernel, rfl⟩
theorem d_mod_holds_136 : cf_D k_mod_holds 136 (.lload_n 2) 1 137 := ⟨by decide +kernel, rfl⟩
theorem d_mod_holds_137 : cf_D k_mod_holds 137 (.lload 4) 2 139 := ⟨by decide +kernel, rfl⟩
theorem d_mod_holds_139 : cf_D k_mod_holds 139 (.lcmp) 1 140 := ⟨by decide +kernel, rfl⟩
theorem d_mod_holds_140 : cf_D k_mod_holds 140 (.ifCond .eq 7) 3 143 := ⟨by decide +kernel, rfl⟩
theorem d_mod_holds_143 : cf_D k_mod_holds 143 (.iconst 1) 1 144 := ⟨by decide +kernel, rfl⟩
theorem d_mod_holds_144 : cf_D k_mod_holds 144 (.goto 4) 3 147 := ⟨by decide +kernel, rfl⟩
theorem d_mod_holds_147 : cf_D k_mod_holds 147 (.iconst 0) 1 148 := ⟨by decide +kernel, rfl⟩
theorem d_mod_holds_148 : cf_D k_mod_holds 148 (.ireturn) 1 149 := ⟨by decide +kernel, rfl⟩
theorem d_mod_moment_0 : cf_D k_mod_moment 0 (.lload_n 2) 1 1 := ⟨by decide +kernel, rfl⟩
theorem d_mod_moment_1 : cf_D k_mod_moment 1 (.lconst 0) 1 2 := ⟨by decide +kernel, rfl⟩
theorem d_mod_moment_2 : cf_D k_mod_moment 2 (.lcmp) 1 3 := ⟨by decide +kernel, rfl⟩
theorem d_mod_moment_3 : cf_D k_mod_moment 3 (.ifCond .ge 5) 3 6 := ⟨by decide +kernel, rfl⟩
theorem d_mod_moment_6 : cf_D k_mod_moment 6 (.iconst 0) 1 7 := ⟨by decide +kernel, rfl⟩
theorem d_mod_moment_7 : cf_D k_mod_moment 7 (.ireturn) 1 8 := ⟨by decide +kernel, rfl⟩
theorem d_mod_moment_8 : cf_D k_mod_moment 8 (.lload_n 2) 1 9 := ⟨by decide +kernel, rfl⟩
theorem d_mod_moment_9 : cf_D k_mod_moment 9 (.ldc2_w 116) 3 12 := ⟨by decide +kernel, rfl⟩
theorem d_mod_moment_12 : cf_D k_mod_moment 12 (.ldiv) 1 13 := ⟨by decide +kernel, rfl⟩
theorem d_mod_moment_13 : cf_D k_mod_moment 13 (.lstore 4) 2 15 := ⟨by decide +kernel, rfl⟩
theorem d_mod_moment_15 : cf_D k_mod_moment 15 (.lload_n 2) 1 16 := ⟨by decide +kernel, rfl⟩
theorem d_mod_moment_16 : cf_D k_mod_moment 16 (.ldc2_w 116) 3 19 := ⟨by decide +kernel, rfl⟩
theorem d_mod_moment_19 : cf_D k_mod_moment 19 (.lrem) 1 20 := ⟨by decide +kernel, rfl⟩
theorem d_mod_moment_20 : cf_D k_mod_moment 20 (.ldc2_w 224) 3 23 := ⟨by decide +kernel, rfl⟩
theorem d_mod_moment_23 : cf_D k_mod_moment 23 (.lmul) 1 24 := ⟨by decide +kernel, rfl⟩
theorem d_mod_moment_24 : cf_D k_mod_moment 24 (.ldc2_w 230) 3 27 := ⟨by decide +kernel, rfl⟩
theorem d_mod_moment_27 : cf_D k_mod_moment 27 (.ladd) 1 28 := ⟨by decide +kernel, rfl⟩
theorem d_mod_moment_28 : cf_D k_mod_moment 28 (.ldc2_w 116) 3 31 := ⟨by decide +kernel, rfl⟩
theorem d_mod_moment_31 : cf_D k_mod_moment 31 (.ldiv) 1 32 := ⟨by decide +kernel, rfl⟩
theorem d_mod_moment_32 : cf_D k_mod_moment 32 (.l2i) 1 33 := ⟨by decide +kernel, rfl⟩
theorem d_mod_moment_33 : cf_D k_mod_moment 33 (.istore 6) 2 35 := ⟨by decide +kernel, rfl⟩
theorem d_mod_moment_35 : cf_D k_mod_moment 35 (.iload 6) 2 37 := ⟨by decide +kernel, rfl⟩
theorem d_mod_moment_37 : cf_D k_mod_moment 37 (.ldc 232) 2 39 := ⟨by decide +kernel, rfl⟩
theorem d_mod_moment_39 : cf_D k_mod_moment 39 (.if_icmp .ne 12) 3 42 := ⟨by decide +kernel, rfl⟩
theorem d_mod_moment_42 : cf_D k_mod_moment 42 (.lload 4) 2 44 := ⟨by decide +kernel, rfl⟩
theorem d_mod_moment_44 : cf_D k_mod_moment 44 (.lconst 1) 1 45 := ⟨by decide +kernel, rfl⟩
theorem d_mod_moment_45 : cf_D k_mod_moment 45 (.ladd) 1 46 := ⟨by decide +kernel, rfl⟩
theorem d_mod_moment_46 : cf_D k_mod_moment 46 (.lstore 4) 2 48 := ⟨by decide +kernel, rfl⟩
theorem d_mod_moment_48 : cf_D k_mod_moment 48 (.iconst 0) 1 49 := ⟨by decide +kernel, rfl⟩
theorem d_mod_moment_49 : cf_D k_mod_moment 49 (.istore 6) 2 51 := ⟨by decide +kernel, rfl⟩
theorem d_mod_moment_51 : cf_D k_mod_moment 51 (.iconst 0) 1 52 := ⟨by decide +kernel, rfl⟩
theorem d_mod_moment_52 : cf_D k_mod_moment 52 (.istore 7) 2 54 := ⟨by decide +kernel, rfl⟩
theorem d_mod_moment_54 : cf_D k_mod_moment 54 (.aload_n 0) 1 55 := ⟨by decide +kernel, rfl⟩
theorem d_mod_moment_55 : cf_D k_mod_moment 55 (.getfield 25) 3 58 := ⟨by decide +kernel, rfl⟩
theorem d_mod_moment_58 : cf_D k_mod_moment 58 (.iload_n 1) 1 59 := ⟨by decide +kernel, rfl⟩
theorem d_mod_moment_59 : cf_D k_mod_moment 59 (.iaload) 1 60 := ⟨by decide +kernel, rfl⟩
theorem d_mod_moment_60 : cf_D k_mod_moment 60 (.istore 8) 2 62 := ⟨by decide +kernel, rfl⟩
theorem d_mod_moment_62 : cf_D k_mod_moment 62 (.iload 8) 2 64 := ⟨by decide +kernel, rfl⟩
theorem d_mod_moment_64 : cf_D k_mod_moment 64 (.aload_n 0) 1 65 := ⟨by decide +kernel, rfl⟩
theorem d_mod_moment_65 : cf_D k_mod_moment 65 (.getfield 25) 3 68 := ⟨by decide +kernel, rfl⟩
theorem d_mod_moment_68 : cf_D k_mod_moment 68 (.iload_n 1) 1 69 := ⟨by decide +kernel, rfl⟩
theorem d_mod_moment_69 : cf_D k_mod_moment 69 (.iconst 1) 1 70 := ⟨by decide +kernel, rfl⟩
theorem d_mod_moment_70 : cf_D k_mod_moment 70 (.iadd) 1 71 := ⟨by decide +kernel, rfl⟩
theorem d_mod_moment_71 : cf_D k_mod_moment 71 (.iaload) 1 72 := ⟨by decide +kernel, rfl⟩
theorem d_mod_moment_72 : cf_D k_mod_moment 72 (.if_icmp .ge 31) 3 75 := ⟨by decide +kernel, rfl⟩
theorem d_mod_moment_75 : cf_D k_mod_moment 75 (.iload 7) 2 77 := ⟨by decide +kernel, rfl⟩
theorem d_mod_moment_77 : cf_D k_mod_moment 77 (.ifCond .ne 13) 3 80 := ⟨by decide +kernel, rfl⟩
theorem d_mod_moment_80 : cf_D k_mod_moment 80 (.aload_n 0) 1 81 := ⟨by decide +kernel, rfl⟩
theorem d_mod_moment_81 : cf_D k_mod_moment 81 (.iload_n 1) 1 82 := ⟨by decide +kernel, rfl⟩
theorem d_mod_moment_82 : cf_D k_mod_moment 82 (.iload 8) 2 84 := ⟨by decide +kernel, rfl⟩
theorem d_mod_moment_84 : cf_D k_mod_moment 84 (.invokevirtual 233) 3 87 := ⟨by decide +kernel, rfl⟩
theorem d_mod_moment_87 : cf_D k_mod_moment 87 (.ifCond .eq 7) 3 90 := ⟨by decide +kernel, rfl⟩
theorem d_mod_moment_90 : cf_D k_mod_moment 90 (.iconst 1) 1 91 := ⟨by decide +kernel, rfl⟩
theorem d_mod_moment_91 : cf_D k_mod_moment 91 (.goto 4) 3 94 := ⟨by decide +kernel, rfl⟩
theorem d_mod_moment_94 : cf_D k_mod_moment 94 (.iconst 0) 1 95 := ⟨by decide +kernel, rfl⟩
theorem d_mod_moment_95 : cf_D k_mod_moment 95 (.istore 7) 2 97 := ⟨by decide +kernel, rfl⟩
theorem d_mod_moment_97 : cf_D k_mod_moment 97 (.iinc 8 1) 3 100 := ⟨by decide +kernel, rfl⟩
theorem d_mod_moment_100 : cf_D k_mod_moment 100 (.goto (-38)) 3 103 := ⟨by decide +kernel, rfl⟩
theorem d_mod_moment_103 : cf_D k_mod_moment 103 (.lload 4) 2 105 := ⟨by decide +kernel, rfl⟩
theorem d_mod_moment_105 : cf_D k_mod_moment 105 (.aload_n 0) 1 106 := ⟨by decide +kernel, rfl⟩
theorem d_mod_moment_106 : cf_D k_mod_moment 106 (.invokevirtual 206) 3 109 := ⟨by decide +kernel, rfl⟩
theorem d_mod_moment_109 : cf_D k_mod_moment 109 (.i2l) 1 110 := ⟨by decide +kernel, rfl⟩
theorem d_mod_moment_110 : cf_D k_mod_moment 110 (.lcmp) 1 111 := ⟨by decide +kernel, rfl⟩
theorem d_mod_moment_111 : cf_D k_mod_moment 111 (.ifCond .gt 19) 3 114 := ⟨by decide +kernel, rfl⟩
theorem d_mod_moment_114 : cf_D k_mod_moment 114 (.iload 7) 2 116 := ⟨by decide +kernel, rfl⟩
theorem d_mod_moment_116 : cf_D k_mod_moment 116 (.ifCond .eq 16) 3 119 := ⟨by decide +kernel, rfl⟩
theorem d_mod_moment_119 : cf_D k_mod_moment 119 (.lload 4) 2 121 := ⟨by decide +kernel, rfl⟩
theorem d_mod_moment_121 : cf_D k_mod_moment 121 (.aload_n 0) 1 122 := ⟨by decide +kernel, rfl⟩
theorem d_mod_moment_122 : cf_D k_mod_moment 122 (.invokevirtual 197) 3 125 := ⟨by decide +kernel, rfl⟩
theorem d_mod_moment_125 : cf_D k_mod_moment 125 (.i2l) 1 126 := ⟨by decide +kernel, rfl⟩
theorem d_mod_moment_126 : cf_D k_mod_moment 126 (.lcmp) 1 127 := ⟨by decide +kernel, rfl⟩
theorem d_mod_moment_127 : cf_D k_mod_moment 127 (.ifCond .ge 5) 3 130 := ⟨by decide +kernel, rfl⟩
theorem d_mod_moment_130 : cf_D k_mod_moment 130 (.iconst 0) 1 131 := ⟨by decide +kernel, rfl⟩
theorem d_mod_moment_131 : cf_D k_mod_moment 131 (.ireturn) 1 132 := ⟨by decide +kernel, rfl⟩
theorem d_mod_moment_132 : cf_D k_mod_moment 132 (.aload_n 0) 1 133 := ⟨by decide +kernel, rfl⟩
theorem d_mod_moment_133 : cf_D k_mod_moment 133 (.getfield 25) 3 136 := ⟨by decide +kernel, rfl⟩
theorem d_mod_moment_136 : cf_D k_mod_moment 136 (.iload_n 1) 1 137 := ⟨by decide +kernel, rfl⟩
theorem d_mod_moment_137 : cf_D k_mod_moment 137 (.iaload) 1 138 := ⟨by decide +kernel, rfl⟩
theorem d_mod_moment_138 : cf_D k_mod_moment 138 (.istore 8) 2 140 := ⟨by decide +kernel, rfl⟩
theorem d_mod_moment_140 : cf_D k_mod_moment 140 (.iload 8) 2 142 := ⟨by decide +kernel, rfl⟩
theorem d_mod_moment_142 : cf_D k_mod_moment 142 (.aload_n 0) 1 143 := ⟨by decide +kernel, rfl⟩
theorem d_mod_moment_143 : cf_D k_mod_moment 143 (.getfield 25) 3 146 := ⟨by decide +kernel, rfl⟩
theorem d_mod_moment_146 : cf_D k_mod_moment 146 (.iload_n 1) 1 147 := ⟨by decide +kernel, rfl⟩
theorem d_mod_moment_147 : cf_D k_mod_moment 147 (.iconst 1) 1 148 := ⟨by decide +kernel, rfl⟩
theorem d_mod_moment_148 : cf_D k_mod_moment 148 (.iadd) 1 149 := ⟨by decide +kernel, rfl⟩
theorem d_mod_moment_149 : cf_D k_mod_moment 149 (.iaload) 1 150 := ⟨by decide +kernel, rfl⟩
theorem d_mod_moment_150 : cf_D k_mod_moment 150 (.if_icmp .ge 80) 3 153 := ⟨by decide +kernel, rfl⟩
theorem d_mod_moment_153 : cf_D k_mod_moment 153 (.aload_n 0) 1 154 := ⟨by decide +kernel, rfl⟩
theorem d_mod_moment_154 : cf_D k_mod_moment 154 (.getfield 16) 3 157 := ⟨by decide +kernel, rfl⟩
theorem d_mod_moment_157 : cf_D k_mod_moment 157 (.iload 8) 2 159 := ⟨by decide +kernel, rfl⟩
theorem d_mod_moment_159 : cf_D k_mod_moment 159 (.iaload) 1 160 := ⟨by decide +kernel, rfl⟩
theorem d_mod_moment_160 : cf_D k_mod_moment 160 (.iconst 1) 1 161 := ⟨by decide +kernel, rfl⟩
theorem d_mod_moment_161 : cf_D k_mod_moment 161 (.if_icmp .ne 12) 3 164 := ⟨by decide +kernel, rfl⟩
theorem d_mod_moment_164 : cf_D k_mod_moment 164 (.aload_n 0) 1 165 := ⟨by decide +kernel, rfl⟩
theorem d_mod_moment_165 : cf_D k_mod_moment 165 (.iload 8) 2 167 := ⟨by decide +kernel, rfl⟩
theorem d_mod_moment_167 : cf_D k_mod_moment 167 (.invokevirtual 139) 3 170 := ⟨by decide +kernel, rfl⟩
theorem d_mod_moment_170 : cf_D k_mod_moment 170 (.goto 54) 3 173 := ⟨by decide +kernel, rfl⟩
theorem d_mod_moment_173 : cf_D k_mod_moment 173 (.aload_n 0) 1 174 := ⟨by decide +kernel, rfl⟩
theorem d_mod_moment_174 : cf_D k_mod_moment 174 (.iload 8) 2 176 := ⟨by decide +kernel, rfl⟩
theorem d_mod_moment_176 : cf_D k_mod_moment 176 (.invokevirtual 209) 3 179 := ⟨by decide +kernel, rfl⟩
theorem d_mod_moment_179 : cf_D k_mod_moment 179 (.ifCond .eq 25) 3 182 := ⟨by decide +kernel, rfl⟩
theorem d_mod_moment_182 : cf_D k_mod_moment 182 (.aload_n 0) 1 183 := ⟨by decide +kernel, rfl⟩
theorem d_mod_moment_183 : cf_D k_mod_moment 183 (.iload_n 1) 1 184 := ⟨by decide +kernel, rfl⟩
theorem d_mod_moment_184 : cf_D k_mod_moment 184 (.iload 8) 2 186 := ⟨by decide +kernel, rfl⟩
theorem d_mod_moment_186 : cf_D k_mod_moment 186 (.invokevirtual 233) 3 189 := ⟨by decide +kernel, rfl⟩
theorem d_mod_moment_189 : cf_D k_mod_moment 189 (.ifCond .eq 15) 3 192 := ⟨by decide +kernel, rfl⟩
theorem d_mod_moment_192 : cf_D k_mod_moment 192 (.aload_n 0) 1 193 := ⟨by decide +kernel, rfl⟩
theorem d_mod_moment_193 : cf_D k_mod_moment 193 (.iload 8) 2 195 := ⟨by decide +kernel, rfl⟩
theorem d_mod_moment_195 : cf_D k_mod_moment 195 (.lload 4) 2 197 := ⟨by decide +kernel, rfl⟩
theorem d_mod_moment_197 : cf_D k_mod_moment 197 (.l2i) 1 198 := ⟨by decide +kernel, rfl⟩
theorem d_mod_moment_198 : cf_D k_mod_moment 198 (.invokevirtual 236) 3 201 := ⟨by decide +kernel, rfl⟩
theorem d_mod_moment_201 : cf_D k_mod_moment 201 (.goto 23) 3 204 := ⟨by decide +kernel, rfl⟩
theorem d_mod_moment_204 : cf_D k_mod_moment 204 (.aload_n 0) 1 205 := ⟨by decide +kernel, rfl⟩
theorem d_mod_moment_205 : cf_D k_mod_moment 205 (.iload 8) 2 207 := ⟨by decide +kernel, rfl⟩
theorem d_mod_moment_207 : cf_D k_mod_moment 207 (.invokevirtual 209) 3 210 := ⟨by decide +kernel, rfl⟩
theorem d_mod_moment_210 : cf_D k_mod_moment 210 (.ifCond .eq 14) 3 213 := ⟨by decide +kernel, rfl⟩
theorem d_mod_moment_213 : cf_D k_mod_moment 213 (.aload_n 0) 1 214 := ⟨by decide +kernel, rfl⟩
theorem d_mod_moment_214 : cf_D k_mod_moment 214 (.iload_n 1) 1 215 := ⟨by decide +kernel, rfl⟩
theorem d_mod_moment_215 : cf_D k_mod_moment 215 (.iload 8) 2 217 := ⟨by decide +kernel, rfl⟩
theorem d_mod_moment_217 : cf_D k_mod_moment 217 (.lload 4) 2 219 := ⟨by decide +kernel, rfl⟩
theorem d_mod_moment_219 : cf_D k_mod_moment 219 (.iload 6) 2 221 := ⟨by decide +kernel, rfl⟩
theorem d_mod_moment_221 : cf_D k_mod_moment 221 (.invokevirtual 239) 3 224 := ⟨by decide +kernel, rfl⟩
theorem d_mod_moment_224 : cf_D k_mod_moment 224 (.iinc 8 1) 3 227 := ⟨by decide +kernel, rfl⟩
theorem d_mod_moment_227 : cf_D k_mod_moment 227 (.goto (-87)) 3 230 := ⟨by decide +kernel, rfl⟩
theorem d_mod_moment_230 : cf_D k_mod_moment 230 (.iconst 1) 1 231 := ⟨by decide +kernel, rfl⟩
theorem d_mod_moment_231 : cf_D k_mod_moment 231 (.ireturn) 1 232 := ⟨by decide +kernel, rfl⟩
theorem d_mod_daily_0 : cf_D k_mod_daily 0 (.aload_n 0) 1 1 := ⟨by decide +kernel, rfl⟩
theorem d_mod_daily_1 : cf_D k_mod_daily 1 (.getfield 16) 3 4 := ⟨by decide +kernel, rfl⟩
theorem d_mod_daily_4 : cf_D k_mod_daily 4 (.iload_n 2) 1 5 := ⟨by decide +kernel, rfl⟩
theorem d_mod_daily_5 : cf_D k_mod_daily 5 (.iaload) 1 6 := ⟨by decide +kernel, rfl⟩
theorem d_mod_daily_6 : cf_D k_mod_daily 6 (.bipush 9) 2 8 := ⟨by decide +kernel, rfl⟩
theorem d_mod_daily_8 : cf_D k_mod_daily 8 (.if_icmp .ne 25) 3 11 := ⟨by decide +kernel, rfl⟩
theorem d_mod_daily_11 : cf_D k_mod_daily 11 (.aload_n 0) 1 12 := ⟨by decide +kernel, rfl⟩
theorem d_mod_daily_12 : cf_D k_mod_daily 12 (.getfield 19) 3 15 := ⟨by decide +kernel, rfl⟩
theorem d_mod_daily_15 : cf_D k_mod_daily 15 (.iload_n 2) 1 16 := ⟨by decide +kernel, rfl⟩
theorem d_mod_daily_16 : cf_D k_mod_daily 16 (.iaload) 1 17 := ⟨by decide +kernel, rfl⟩
theorem d_mod_daily_17 : cf_D k_mod_daily 17 (.bipush 104) 2 19 := ⟨by decide +kernel, rfl⟩
theorem d_mod_daily_19 : cf_D k_mod_daily 19 (.if_icmp .eq 14) 3 22 := ⟨by decide +kernel, rfl⟩
theorem d_mod_daily_22 : cf_D k_mod_daily 22 (.aload_n 0) 1 23 := ⟨by decide +kernel, rfl⟩
theorem d_mod_daily_23 : cf_D k_mod_daily 23 (.getfield 19) 3 26 := ⟨by decide +kernel, rfl⟩
theorem d_mod_daily_26 : cf_D k_mod_daily 26 (.iload_n 2) 1 27 := ⟨by decide +kernel, rfl⟩
theorem d_mod_daily_27 : cf_D k_mod_daily 27 (.iaload) 1 28 := ⟨by decide +kernel, rfl⟩
theorem d_mod_daily_28 : cf_D k_mod_daily 28 (.bipush 115) 2 30 := ⟨by decide +kernel, rfl⟩
theorem d_mod_daily_30 : cf_D k_mod_daily 30 (.if_icmp .ne 5) 3 33 := ⟨by decide +kernel, rfl⟩
theorem d_mod_daily_33 : cf_D k_mod_daily 33 (.iconst 0) 1 34 := ⟨by decide +kernel, rfl⟩
theorem d_mod_daily_34 : cf_D k_mod_daily 34 (.ireturn) 1 35 := ⟨by decide +kernel, rfl⟩
theorem d_mod_daily_35 : cf_D k_mod_daily 35 (.aload_n 0) 1 36 := ⟨by decide +kernel, rfl⟩
theorem d_mod_daily_36 : cf_D k_mod_daily 36 (.getfield 19) 3 39 := ⟨by decide +kernel, rfl⟩
theorem d_mod_daily_39 : cf_D k_mod_daily 39 (.iload_n 2) 1 40 := ⟨by decide +kernel, rfl⟩
theorem d_mod_daily_40 : cf_D k_mod_daily 40 (.iaload) 1 41 := ⟨by decide +kernel, rfl⟩
theorem d_mod_daily_41 : cf_D k_mod_daily 41 (.bipush 109) 2 43 := ⟨by decide +kernel, rfl⟩
theorem d_mod_daily_43 : cf_D k_mod_daily 43 (.if_icmp .ne 22) 3 46 := ⟨by decide +kernel, rfl⟩
theorem d_mod_daily_46 : cf_D k_mod_daily 46 (.aload_n 0) 1 47 := ⟨by decide +kernel, rfl⟩
theorem d_mod_daily_47 : cf_D k_mod_daily 47 (.getfield 22) 3 50 := ⟨by decide +kernel, rfl⟩
theorem d_mod_daily_50 : cf_D k_mod_daily 50 (.iload_n 2) 1 51 := ⟨by decide +kernel, rfl⟩
theorem d_mod_daily_51 : cf_D k_mod_daily 51 (.iaload) 1 52 := ⟨by decide +kernel, rfl⟩
theorem d_mod_daily_52 : cf_D k_mod_daily 52 (.iconst 3) 1 53 := ⟨by decide +kernel, rfl⟩
theorem d_mod_daily_53 : cf_D k_mod_daily 53 (.if_icmp .eq 12) 3 56 := ⟨by decide +kernel, rfl⟩
theorem d_mod_daily_56 : cf_D k_mod_daily 56 (.aload_n 0) 1 57 := ⟨by decide +kernel, rfl⟩
theorem d_mod_daily_57 : cf_D k_mod_daily 57 (.iload_n 1) 1 58 := ⟨by decide +kernel, rfl⟩
theorem d_mod_daily_58 : cf_D k_mod_daily 58 (.iload_n 2) 1 59 := ⟨by decide +kernel, rfl⟩
theorem d_mod_daily_59 : cf_D k_mod_daily 59 (.invokevirtual 212) 3 62 := ⟨by decide +kernel, rfl⟩
theorem d_mod_daily_62 : cf_D k_mod_daily 62 (.ifCond .ne 7) 3 65 := ⟨by decide +kernel, rfl⟩
theorem d_mod_daily_65 : cf_D k_mod_daily 65 (.iconst 1) 1 66 := ⟨by decide +kernel, rfl⟩
theorem d_mod_daily_66 : cf_D k_mod_daily 66 (.goto 4) 3 69 := ⟨by decide +kernel, rfl⟩
theorem d_mod_daily_69 : cf_D k_mod_daily 69 (.iconst 0) 1 70 := ⟨by decide +kernel, rfl⟩
theorem d_mod_daily_70 : cf_D k_mod_daily 70 (.ireturn) 1 71 := ⟨by decide +kernel, rfl⟩
theorem d_mod_minute_0 : cf_D k_mod_minute 0 (.iload_n 2) 1 1 := ⟨by decide +kernel, rfl⟩
theorem d_mod_minute_1 : cf_D k_mod_minute 1 (.iconst 1) 1 2 := ⟨by decide +kernel, rfl⟩
theorem d_mod_minute_2 : cf_D k_mod_minute 2 (.isub) 1 3 := ⟨by decide +kernel, rfl⟩
theorem d_mod_minute_3 : cf_D k_mod_minute 3 (.istore_n 3) 1 4 := ⟨by decide +kernel, rfl⟩
theorem d_mod_minute_4 : cf_D k_mod_minute 4 (.iload_n 3) 1 5 := ⟨by decide +kernel, rfl⟩
theorem d_mod_minute_5 : cf_D k_mod_minute 5 (.aload_n 0) 1 6 := ⟨by decide +kernel, rfl⟩
theorem d_mod_minute_6 : cf_D k_mod_minute 6 (.getfield 25) 3 9 := ⟨by decide +kernel, rfl⟩
theorem d_mod_minute_9 : cf_D k_mod_minute 9 (.iload_n 1) 1 10 := ⟨by decide +kernel, rfl⟩
theorem d_mod_minute_10 : cf_D k_mod_minute 10 (.iaload) 1 11 := ⟨by decide +kernel, rfl⟩
theorem d_mod_minute_11 : cf_D k_mod_minute 11 (.if_icmp .lt 17) 3 14 := ⟨by decide +kernel, rfl⟩
theorem d_mod_minute_14 : cf_D k_mod_minute 14 (.aload_n 0) 1 15 := ⟨by decide +kernel, rfl⟩
theorem d_mod_minute_15 : cf_D k_mod_minute 15 (.iload_n 3) 1 16 := ⟨by decide +kernel, rfl⟩
theorem d_mod_minute_16 : cf_D k_mod_minute 16 (.invokevirtual 209) 3 19 := ⟨by decide +kernel, rfl⟩
theorem d_mod_minute_19 : cf_D k_mod_minute 19 (.ifCond .ne 9) 3 22 := ⟨by decide +kernel, rfl⟩
theorem d_mod_minute_22 : cf_D k_mod_minute 22 (.iinc 3 (-1)) 3 25 := ⟨by decide +kernel, rfl⟩
theorem d_mod_minute_25 : cf_D k_mod_minute 25 (.goto (-21)) 3 28 := ⟨by decide +kernel, rfl⟩
theorem d_mod_minute_28 : cf_D k_mod_minute 28 (.iload_n 2) 1 29 := ⟨by decide +kernel, rfl⟩
theorem d_mod_minute_29 : cf_D k_mod_minute 29 (.iconst 1) 1 30 := ⟨by decide +kernel, rfl⟩
theorem d_mod_minute_30 : cf_D k_mod_minute 30 (.iadd) 1 31 := ⟨by decide +kernel, rfl⟩
theorem d_mod_minute_31 : cf_D k_mod_minute 31 (.istore 4) 2 33 := ⟨by decide +kernel, rfl⟩
theorem d_mod_minute_33 : cf_D k_mod_minute 33 (.iload 4) 2 35 := ⟨by decide +kernel, rfl⟩
theorem d_mod_minute_35 : cf_D k_mod_minute 35 (.aload_n 0) 1 36 := ⟨by decide +kernel, rfl⟩
theorem d_mod_minute_36 : cf_D k_mod_minute 36 (.getfield 25) 3 39 := ⟨by decide +kernel, rfl⟩
theorem d_mod_minute_39 : cf_D k_mod_minute 39 (.iload_n 1) 1 40 := ⟨by decide +kernel, rfl⟩
theorem d_mod_minute_40 : cf_D k_mod_minute 40 (.iconst 1) 1 41 := ⟨by decide +kernel, rfl⟩
theorem d_mod_minute_41 : cf_D k_mod_minute 41 (.iadd) 1 42 := ⟨by decide +kernel, rfl⟩
theorem d_mod_minute_42 : cf_D k_mod_minute 42 (.iaload) 1 43 := ⟨by decide +kernel, rfl⟩
theorem d_mod_minute_43 : cf_D k_mod_minute 43 (.if_icmp .ge 18) 3 46 := ⟨by decide +kernel, rfl⟩
theorem d_mod_minute_46 : cf_D k_mod_minute 46 (.aload_n 0) 1 47 := ⟨by decide +kernel, rfl⟩
theorem d_mod_minute_47 : cf_D k_mod_minute 47 (.iload 4) 2 49 := ⟨by decide +kernel, rfl⟩
theorem d_mod_minute_49 : cf_D k_mod_minute 49 (.invokevirtual 209) 3 52 := ⟨by decide +kernel, rfl⟩
theorem d_mod_minute_52 : cf_D k_mod_minute 52 (.ifCond .ne 9) 3 55 := ⟨by decide +kernel, rfl⟩
theorem d_mod_minute_55 : cf_D k_mod_minute 55 (.iinc 4 1) 3 58 := ⟨by decide +kernel, rfl⟩
theorem d_mod_minute_58 : cf_D k_mod_minute 58 (.goto (-25)) 3 61 := ⟨by decide +kernel, rfl⟩
theorem d_mod_minute_61 : cf_D k_mod_minute 61 (.iload_n 3) 1 62 := ⟨by decide +kernel, rfl⟩
theorem d_mod_minute_62 : cf_D k_mod_minute 62 (.aload_n 0) 1 63 := ⟨by decide +kernel, rfl⟩
theorem d_mod_minute_63 : cf_D k_mod_minute 63 (.getfield 25) 3 66 := ⟨by decide +kernel, rfl⟩
theorem d_mod_minute_66 : cf_D k_mod_minute 66 (.iload_n 1) 1 67 := ⟨by decide +kernel, rfl⟩
theorem d_mod_minute_67 : cf_D k_mod_minute 67 (.iaload) 1 68 := ⟨by decide +kernel, rfl⟩
theorem d_mod_minute_68 : cf_D k_mod_minute 68 (.if_icmp .lt 29) 3 71 := ⟨by decide +kernel, rfl⟩
theorem d_mod_minute_71 : cf_D k_mod_minute 71 (.aload_n 0) 1 72 := ⟨by decide +kernel, rfl⟩
theorem d_mod_minute_72 : cf_D k_mod_minute 72 (.getfield 16) 3 75 := ⟨by decide +kernel, rfl⟩
theorem d_mod_minute_75 : cf_D k_mod_minute 75 (.iload_n 3) 1 76 := ⟨by decide +kernel, rfl⟩
theorem d_mod_minute_76 : cf_D k_mod_minute 76 (.iaload) 1 77 := ⟨by decide +kernel, rfl⟩
theorem d_mod_minute_77 : cf_D k_mod_minute 77 (.bipush 10) 2 79 := ⟨by decide +kernel, rfl⟩
theorem d_mod_minute_79 : cf_D k_mod_minute 79 (.if_icmp .eq 18) 3 82 := ⟨by decide +kernel, rfl⟩
theorem d_mod_minute_82 : cf_D k_mod_minute 82 (.aload_n 0) 1 83 := ⟨by decide +kernel, rfl⟩
theorem d_mod_minute_83 : cf_D k_mod_minute 83 (.getfield 19) 3 86 := ⟨by decide +kernel, rfl⟩
theorem d_mod_minute_86 : cf_D k_mod_minute 86 (.iload_n 3) 1 87 := ⟨by decide +kernel, rfl⟩
theorem d_mod_minute_87 : cf_D k_mod_minute 87 (.iaload) 1 88 := ⟨by decide +kernel, rfl⟩
theorem d_mod_minute_88 : cf_D k_mod_minute 88 (.bipush 104) 2 90 := ⟨by decide +kernel, rfl⟩
theorem d_mod_minute_90 : cf_D k_mod_minute 90 (.if_icmp .ne 7) 3 93 := ⟨by decide +kernel, rfl⟩
theorem d_mod_minute_93 : cf_D k_mod_minute 93 (.iconst 1) 1 94 := ⟨by decide +kernel, rfl⟩
theorem d_mod_minute_94 : cf_D k_mod_minute 94 (.goto 4) 3 97 := ⟨by decide +kernel, rfl⟩
theorem d_mod_minute_97 : cf_D k_mod_minute 97 (.iconst 0) 1 98 := ⟨by decide +kernel, rfl⟩
theorem d_mod_minute_98 : cf_D k_mod_minute 98 (.istore 5) 2 100 := ⟨by decide +kernel, rfl⟩
theorem d_mod_minute_100 : cf_D k_mod_minute 100 (.iload 4) 2 102 := ⟨by decide +kernel, rfl⟩
theorem d_mod_minute_102 : cf_D k_mod_minute 102 (.aload_n 0) 1 103 := ⟨by decide +kernel, rfl⟩
theorem d_mod_minute_103 : cf_D k_mod_minute 103 (.getfield 25) 3 106 := ⟨by decide +kernel, rfl⟩
theorem d_mod_minute_106 : cf_D k_mod_minute 106 (.iload_n 1) 1 107 := ⟨by decide +kernel, rfl⟩
theorem d_mod_minute_107 : cf_D k_mod_minute 107 (.iconst 1) 1 108 := ⟨by decide +kernel, rfl⟩
theorem d_mod_minute_108 : cf_D k_mod_minute 108 (.iadd) 1 109 := ⟨by decide +kernel, rfl⟩
theorem d_mod_minute_109 : cf_D k_mod_minute 109 (.iaload) 1 110 := ⟨by decide +kernel, rfl⟩
theorem d_mod_minute_110 : cf_D k_mod_minute 110 (.if_icmp .ge 31) 3 113 := ⟨by decide +kernel, rfl⟩
theorem d_mod_minute_113 : cf_D k_mod_minute 113 (.aload_n 0) 1 114 := ⟨by decide +kernel, rfl⟩
theorem d_mod_minute_114 : cf_D k_mod_minute 114 (.getfield 16) 3 117 := ⟨by decide +kernel, rfl⟩
theorem d_mod_minute_117 : cf_D k_mod_minute 117 (.iload 4) 2 119 := ⟨by decide +kernel, rfl⟩
theorem d_mod_minute_119 : cf_D k_mod_minute 119 (.iaload) 1 120 := ⟨by decide +kernel, rfl⟩
theorem d_mod_minute_120 : cf_D k_mod_minute 120 (.bipush 10) 2 122 := ⟨by decide +kernel, rfl⟩
theorem d_mod_minute_122 : cf_D k_mod_minute 122 (.if_icmp .eq 19) 3 125 := ⟨by decide +kernel, rfl⟩
theorem d_mod_minute_125 : cf_D k_mod_minute 125 (.aload_n 0) 1 126 := ⟨by decide +kernel, rfl⟩
theorem d_mod_minute_126 : cf_D k_mod_minute 126 (.getfield 19) 3 129 := ⟨by decide +kernel, rfl⟩
theorem d_mod_minute_129 : cf_D k_mod_minute 129 (.iload 4) 2 131 := ⟨by decide +kernel, rfl⟩
theorem d_mod_minute_131 : cf_D k_mod_minute 131 (.iaload) 1 132 := ⟨by decide +kernel, rfl⟩
theorem d_mod_minute_132 : cf_D k_mod_minute 132 (.bipush 115) 2 134 := ⟨by decide +kernel, rfl⟩
theorem d_mod_minute_134 : cf_D k_mod_minute 134 (.if_icmp .ne 7) 3 137 := ⟨by decide +kernel, rfl⟩
theorem d_mod_minute_137 : cf_D k_mod_minute 137 (.iconst 1) 1 138 := ⟨by decide +kernel, rfl⟩
theorem d_mod_minute_138 : cf_D k_mod_minute 138 (.goto 4) 3 141 := ⟨by decide +kernel, rfl⟩
theorem d_mod_minute_141 : cf_D k_mod_minute 141 (.iconst 0) 1 142 := ⟨by decide +kernel, rfl⟩
theorem d_mod_minute_142 : cf_D k_mod_minute 142 (.istore 6) 2 144 := ⟨by decide +kernel, rfl⟩
theorem d_mod_minute_144 : cf_D k_mod_minute 144 (.iload 5) 2 146 := ⟨by decide +kernel, rfl⟩
theorem d_mod_minute_146 : cf_D k_mod_minute 146 (.ifCond .ne 8) 3 149 := ⟨by decide +kernel, rfl⟩
theorem d_mod_minute_149 : cf_D k_mod_minute 149 (.iload 6) 2 151 := ⟨by decide +kernel, rfl⟩
theorem d_mod_minute_151 : cf_D k_mod_minute 151 (.ifCond .eq 7) 3 154 := ⟨by decide +kernel, rfl⟩
theorem d_mod_minute_154 : cf_D k_mod_minute 154 (.iconst 1) 1 155 := ⟨by decide +kernel, rfl⟩
theorem d_mod_minute_155 : cf_D k_mod_minute 155 (.goto 4) 3 158 := ⟨by decide +kernel, rfl⟩
theorem d_mod_minute_158 : cf_D k_mod_minute 158 (.iconst 0) 1 159 := ⟨by decide +kernel, rfl⟩
theorem d_mod_minute_159 : cf_D k_mod_minute 159 (.ireturn) 1 160 := ⟨by decide +kernel, rfl⟩
theorem d_mod_field_0 : cf_D k_mod_field 0 (.aload_n 0) 1 1 := ⟨by decide +kernel, rfl⟩
theorem d_mod_field_1 : cf_D k_mod_field 1 (.getfield 16) 3 4 := ⟨by decide +kernel, rfl⟩
theorem d_mod_field_4 : cf_D k_mod_field 4 (.iload_n 1) 1 5 := ⟨by decide +kernel, rfl⟩
theorem d_mod_field_5 : cf_D k_mod_field 5 (.iaload) 1 6 := ⟨by decide +kernel, rfl⟩
theorem d_mod_field_6 : cf_D k_mod_field 6 (.bipush 9) 2 8 := ⟨by decide +kernel, rfl⟩
theorem d_mod_field_8 : cf_D k_mod_field 8 (.if_icmp .eq 25) 3 11 := ⟨by decide +kernel, rfl⟩
theorem d_mod_field_11 : cf_D k_mod_field 11 (.aload_n 0) 1 12 := ⟨by decide +kernel, rfl⟩
theorem d_mod_field_12 : cf_D k_mod_field 12 (.getfield 16) 3 15 := ⟨by decide +kernel, rfl⟩
theorem d_mod_field_15 : cf_D k_mod_field 15 (.iload_n 1) 1 16 := ⟨by decide +kernel, rfl⟩
theorem d_mod_field_16 : cf_D k_mod_field 16 (.iaload) 1 17 := ⟨by decide +kernel, rfl⟩
theorem d_mod_field_17 : cf_D k_mod_field 17 (.bipush 8) 2 19 := ⟨by decide +kernel, rfl⟩
theorem d_mod_field_19 : cf_D k_mod_field 19 (.if_icmp .eq 14) 3 22 := ⟨by decide +kernel, rfl⟩
theorem d_mod_field_22 : cf_D k_mod_field 22 (.aload_n 0) 1 23 := ⟨by decide +kernel, rfl⟩
theorem d_mod_field_23 : cf_D k_mod_field 23 (.getfield 16) 3 26 := ⟨by decide +kernel, rfl⟩
theorem d_mod_field_26 : cf_D k_mod_field 26 (.iload_n 1) 1 27 := ⟨by decide +kernel, rfl⟩
theorem d_mod_field_27 : cf_D k_mod_field 27 (.iaload) 1 28 := ⟨by decide +kernel, rfl⟩
theorem d_mod_field_28 : cf_D k_mod_field 28 (.bipush 10) 2 30 := ⟨by decide +kernel, rfl⟩
theorem d_mod_field_30 : cf_D k_mod_field 30 (.if_icmp .ne 7) 3 33 := ⟨by decide +kernel, rfl⟩
theorem d_mod_field_33 : cf_D k_mod_field 33 (.iconst 1) 1 34 := ⟨by decide +kernel, rfl⟩
theorem d_mod_field_34 : cf_D k_mod_field 34 (.goto 4) 3 37 := ⟨by decide +kernel, rfl⟩
theorem d_mod_field_37 : cf_D k_mod_field 37 (.iconst 0) 1 38 := ⟨by decide +kernel, rfl⟩
theorem d_mod_field_38 : cf_D k_mod_field 38 (.ireturn) 1 39 := ⟨by decide +kernel, rfl⟩
theorem d_mod_putLiteral_0 : cf_D k_mod_putLiteral 0 (.aload_n 0) 1 1 := ⟨by decide +kernel, rfl⟩
theorem d_mod_putLiteral_1 : cf_D k_mod_putLiteral 1 (.getfield 19) 3 4 := ⟨by decide +kernel, rfl⟩
theorem d_mod_putLiteral_4 : cf_D k_mod_putLiteral 4 (.iload_n 1) 1 5 := ⟨by decide +kernel, rfl⟩
theorem d_mod_putLiteral_5 : cf_D k_mod_putLiteral 5 (.iaload) 1 6 := ⟨by decide +kernel, rfl⟩
theorem d_mod_putLiteral_6 : cf_D k_mod_putLiteral 6 (.ifCond .ge 9) 3 9 := ⟨by decide +kernel, rfl⟩
theorem d_mod_putLiteral_9 : cf_D k_mod_putLiteral 9 (.aload_n 0) 1 10 := ⟨by decide +kernel, rfl⟩
theorem d_mod_putLiteral_10 : cf_D k_mod_putLiteral 10 (.bipush 32) 2 12 := ⟨by decide +kernel, rfl⟩
theorem d_mod_putLiteral_12 : cf_D k_mod_putLiteral 12 (.invokevirtual 132) 3 15 := ⟨by decide +kernel, rfl⟩
theorem d_mod_putLiteral_15 : cf_D k_mod_putLiteral 15 (.aload_n 0) 1 16 := ⟨by decide +kernel, rfl⟩
theorem d_mod_putLiteral_16 : cf_D k_mod_putLiteral 16 (.getfield 19) 3 19 := ⟨by decide +kernel, rfl⟩
theorem d_mod_putLiteral_19 : cf_D k_mod_putLiteral 19 (.iload_n 1) 1 20 := ⟨by decide +kernel, rfl⟩
theorem d_mod_putLiteral_20 : cf_D k_mod_putLiteral 20 (.iaload) 1 21 := ⟨by decide +kernel, rfl⟩
theorem d_mod_putLiteral_21 : cf_D k_mod_putLiteral 21 (.istore_n 2) 1 22 := ⟨by decide +kernel, rfl⟩
theorem d_mod_putLiteral_22 : cf_D k_mod_putLiteral 22 (.iload_n 2) 1 23 := ⟨by decide +kernel, rfl⟩
theorem d_mod_putLiteral_23 : cf_D k_mod_putLiteral 23 (.ifCond .lt 29) 3 26 := ⟨by decide +kernel, rfl⟩
theorem d_mod_putLiteral_26 : cf_D k_mod_putLiteral 26 (.iload_n 2) 1 27 := ⟨by decide +kernel, rfl⟩
theorem d_mod_putLiteral_27 : cf_D k_mod_putLiteral 27 (.aload_n 0) 1 28 := ⟨by decide +kernel, rfl⟩
theorem d_mod_putLiteral_28 : cf_D k_mod_putLiteral 28 (.getfield 22) 3 31 := ⟨by decide +kernel, rfl⟩
theorem d_mod_putLiteral_31 : cf_D k_mod_putLiteral 31 (.iload_n 1) 1 32 := ⟨by decide +kernel, rfl⟩
theorem d_mod_putLiteral_32 : cf_D k_mod_putLiteral 32 (.iaload) 1 33 := ⟨by decide +kernel, rfl⟩
theorem d_mod_putLiteral_33 : cf_D k_mod_putLiteral 33 (.if_icmp .ge 19) 3 36 := ⟨by decide +kernel, rfl⟩
theorem d_mod_putLiteral_36 : cf_D k_mod_putLiteral 36 (.aload_n 0) 1 37 := ⟨by decide +kernel, rfl⟩
theorem d_mod_putLiteral_37 : cf_D k_mod_putLiteral 37 (.aload_n 0) 1 38 := ⟨by decide +kernel, rfl⟩
theorem d_mod_putLiteral_38 : cf_D k_mod_putLiteral 38 (.getfield 13) 3 41 := ⟨by decide +kernel, rfl⟩
theorem d_mod_putLiteral_41 : cf_D k_mod_putLiteral 41 (.iload_n 2) 1 42 := ⟨by decide +kernel, rfl⟩
theorem d_mod_putLiteral_42 : cf_D k_mod_putLiteral 42 (.iaload) 1 43 := ⟨by decide +kernel, rfl⟩
theorem d_mod_putLiteral_43 : cf_D k_mod_putLiteral 43 (.invokevirtual 132) 3 46 := ⟨by decide +kernel, rfl⟩
theorem d_mod_putLiteral_46 : cf_D k_mod_putLiteral 46 (.iinc 2 1) 3 49 := ⟨by decide +kernel, rfl⟩
theorem d_mod_putLiteral_49 : cf_D k_mod_putLiteral 49 (.goto (-27)) 3 52 := ⟨by decide +kernel, rfl⟩
theorem d_mod_putLiteral_52 : cf_D k_mod_putLiteral 52 (.return_) 1 53 := ⟨by decide +kernel, rfl⟩
theorem d_mod_put_0 : cf_D k_mod_put 0 (.aload_n 0) 1 1 := ⟨by decide +kernel, rfl⟩
theorem d_mod_put_1 : cf_D k_mod_put 1 (.getfield 32) 3 4 := ⟨by decide +kernel, rfl⟩
theorem d_mod_put_4 : cf_D k_mod_put 4 (.aload_n 0) 1 5 := ⟨by decide +kernel, rfl⟩
theorem d_mod_put_5 : cf_D k_mod_put 5 (.getfield 129) 3 8 := ⟨by decide +kernel, rfl⟩
theorem d_mod_put_8 : cf_D k_mod_put 8 (.iload_n 1) 1 9 := ⟨by decide +kernel, rfl⟩
theorem d_mod_put_9 : cf_D k_mod_put 9 (.i2c) 1 10 := ⟨by decide +kernel, rfl⟩
theorem d_mod_put_10 : cf_D k_mod_put 10 (.castore) 1 11 := ⟨by decide +kernel, rfl⟩
theorem d_mod_put_11 : cf_D k_mod_put 11 (.aload_n 0) 1 12 := ⟨by decide +kernel, rfl⟩
theorem d_mod_put_12 : cf_D k_mod_put 12 (.dup) 1 13 := ⟨by decide +kernel, rfl⟩
theorem d_mod_put_13 : cf_D k_mod_put 13 (.getfield 129) 3 16 := ⟨by decide +kernel, rfl⟩
theorem d_mod_put_16 : cf_D k_mod_put 16 (.iconst 1) 1 17 := ⟨by decide +kernel, rfl⟩
theorem d_mod_put_17 : cf_D k_mod_put 17 (.iadd) 1 18 := ⟨by decide +kernel, rfl⟩
theorem d_mod_put_18 : cf_D k_mod_put 18 (.putfield 129) 3 21 := ⟨by decide +kernel, rfl⟩
theorem d_mod_put_21 : cf_D k_mod_put 21 (.return_) 1 22 := ⟨by decide +kernel, rfl⟩
theorem d_mod_dailyField_0 : cf_D k_mod_dailyField 0 (.aload_n 0) 1 1 := ⟨by decide +kernel, rfl⟩
theorem d_mod_dailyField_1 : cf_D k_mod_dailyField 1 (.getfield 19) 3 4 := ⟨by decide +kernel, rfl⟩
theorem d_mod_dailyField_4 : cf_D k_mod_dailyField 4 (.iload_n 1) 1 5 := ⟨by decide +kernel, rfl⟩
theorem d_mod_dailyField_5 : cf_D k_mod_dailyField 5 (.iaload) 1 6 := ⟨by decide +kernel, rfl⟩
theorem d_mod_dailyField_6 : cf_D k_mod_dailyField 6 (.istore_n 3) 1 7 := ⟨by decide +kernel, rfl⟩
theorem d_mod_dailyField_7 : cf_D k_mod_dailyField 7 (.aload_n 0) 1 8 := ⟨by decide +kernel, rfl⟩
theorem d_mod_dailyField_8 : cf_D k_mod_dailyField 8 (.getfield 22) 3 11 := ⟨by decide +kernel, rfl⟩
theorem d_mod_dailyField_11 : cf_D k_mod_dailyField 11 (.iload_n 1) 1 12 := ⟨by decide +kernel, rfl⟩
theorem d_mod_dailyField_12 : cf_D k_mod_dailyField 12 (.iaload) 1 13 := ⟨by decide +kernel, rfl⟩
theorem d_mod_dailyField_13 : cf_D k_mod_dailyField 13 (.istore 4) 2 15 := ⟨by decide +kernel, rfl⟩
theorem d_mod_dailyField_15 : cf_D k_mod_dailyField 15 (.iload_n 3) 1 16 := ⟨by decide +kernel, rfl⟩
theorem d_mod_dailyField_16 : cf_D k_mod_dailyField 16 (.bipush 121) 2 18 := ⟨by decide +kernel, rfl⟩
theorem d_mod_dailyField_18 : cf_D k_mod_dailyField 18 (.if_icmp .ne 24) 3 21 := ⟨by decide +kernel, rfl⟩
theorem d_mod_dailyField_21 : cf_D k_mod_dailyField 21 (.iload 4) 2 23 := ⟨by decide +kernel, rfl⟩
theorem d_mod_dailyField_23 : cf_D k_mod_dailyField 23 (.iconst 4) 1 24 := ⟨by decide +kernel, rfl⟩
theorem d_mod_dailyField_24 : cf_D k_mod_dailyField 24 (.if_icmp .ne 18) 3 27 := ⟨by decide +kernel, rfl⟩
theorem d_mod_dailyField_27 : cf_D k_mod_dailyField 27 (.aload_n 0) 1 28 := ⟨by decide +kernel, rfl⟩
theorem d_mod_dailyField_28 : cf_D k_mod_dailyField 28 (.aload_n 0) 1 29 := ⟨by decide +kernel, rfl⟩
theorem d_mod_dailyField_29 : cf_D k_mod_dailyField 29 (.iload_n 2) 1 30 := ⟨by decide +kernel, rfl⟩
theorem d_mod_dailyField_30 : cf_D k_mod_dailyField 30 (.iconst 0) 1 31 := ⟨by decide +kernel, rfl⟩
theorem d_mod_dailyField_31 : cf_D k_mod_dailyField 31 (.invokevirtual 215) 3 34 := ⟨by decide +kernel, rfl⟩
theorem d_mod_dailyField_34 : cf_D k_mod_dailyField 34 (.i2l) 1 35 := ⟨by decide +kernel, rfl⟩
theorem d_mod_dailyField_35 : cf_D k_mod_dailyField 35 (.iconst 1) 1 36 := ⟨by decide +kernel, rfl⟩
theorem d_mod_dailyField_36 : cf_D k_mod_dailyField 36 (.invokevirtual 172) 3 39 := ⟨by decide +kernel, rfl⟩
theorem d_mod_dailyField_39 : cf_D k_mod_dailyField 39 (.goto 106) 3 42 := ⟨by decide +kernel, rfl⟩
theorem d_mod_dailyField_42 : cf_D k_mod_dailyField 42 (.iload_n 3) 1 43 := ⟨by decide +kernel, rfl⟩
theorem d_mod_dailyField_43 : cf_D k_mod_dailyField 43 (.bipush 121) 2 45 := ⟨by decide +kernel, rfl⟩
theorem d_mod_dailyField_45 : cf_D k_mod_dailyField 45 (.if_icmp .ne 21) 3 48 := ⟨by decide +kernel, rfl⟩
theorem d_mod_dailyField_48 : cf_D k_mod_dailyField 48 (.aload_n 0) 1 49 := ⟨by decide +kernel, rfl⟩
theorem d_mod_dailyField_49 : cf_D k_mod_dailyField 49 (.aload_n 0) 1 50 := ⟨by decide +kernel, rfl⟩
theorem d_mod_dailyField_50 : cf_D k_mod_dailyField 50 (.iload_n 2) 1 51 := ⟨by decide +kernel, rfl⟩
theorem d_mod_dailyField_51 : cf_D k_mod_dailyField 51 (.iconst 0) 1 52 := ⟨by decide +kernel, rfl⟩
theorem d_mod_dailyField_52 : cf_D k_mod_dailyField 52 (.invokevirtual 215) 3 55 := ⟨by decide +kernel, rfl⟩
theorem d_mod_dailyField_55 : cf_D k_mod_dailyField 55 (.bipush 100) 2 57 := ⟨by decide +kernel, rfl⟩
theorem d_mod_dailyField_57 : cf_D k_mod_dailyField 57 (.irem) 1 58 := ⟨by decide +kernel, rfl⟩
theorem d_mod_dailyField_58 : cf_D k_mod_dailyField 58 (.i2l) 1 59 := ⟨by decide +kernel, rfl⟩
theorem d_mod_dailyField_59 : cf_D k_mod_dailyField 59 (.iconst 2) 1 60 := ⟨by decide +kernel, rfl⟩
theorem d_mod_dailyField_60 : cf_D k_mod_dailyField 60 (.invokevirtual 172) 3 63 := ⟨by decide +kernel, rfl⟩
theorem d_mod_dailyField_63 : cf_D k_mod_dailyField 63 (.goto 82) 3 66 := ⟨by decide +kernel, rfl⟩
theorem d_mod_dailyField_66 : cf_D k_mod_dailyField 66 (.iload_n 3) 1 67 := ⟨by decide +kernel, rfl⟩
theorem d_mod_dailyField_67 : cf_D k_mod_dailyField 67 (.bipush 109) 2 69 := ⟨by decide +kernel, rfl⟩
theorem d_mod_dailyField_69 : cf_D k_mod_dailyField 69 (.if_icmp .ne 25) 3 72 := ⟨by decide +kernel, rfl⟩
theorem d_mod_dailyField_72 : cf_D k_mod_dailyField 72 (.iload 4) 2 74 := ⟨by decide +kernel, rfl⟩
theorem d_mod_dailyField_74 : cf_D k_mod_dailyField 74 (.iconst 3) 1 75 := ⟨by decide +kernel, rfl⟩
theorem d_mod_dailyField_75 : cf_D k_mod_dailyField 75 (.if_icmp .ge 19) 3 78 := ⟨by decide +kernel, rfl⟩
theorem d_mod_dailyField_78 : cf_D k_mod_dailyField 78 (.aload_n 0) 1 79 := ⟨by decide +kernel, rfl⟩
theorem d_mod_dailyField_79 : cf_D k_mod_dailyField 79 (.aload_n 0) 1 80 := ⟨by decide +kernel, rfl⟩
theorem d_mod_dailyField_80 : cf_D k_mod_dailyField 80 (.iload_n 2) 1 81 := ⟨by decide +kernel, rfl⟩
theorem d_mod_dailyField_81 : cf_D k_mod_dailyField 81 (.iconst 1) 1 82 := ⟨by decide +kernel, rfl⟩
theorem d_mod_dailyField_82 : cf_D k_mod_dailyField 82 (.invokevirtual 215) 3 85 := ⟨by decide +kernel, rfl⟩
theorem d_mod_dailyField_85 : cf_D k_mod_dailyField 85 (.i2l) 1 86 := ⟨by decide +kernel, rfl⟩
theorem d_mod_dailyField_86 : cf_D k_mod_dailyField 86 (.iload 4) 2 88 := ⟨by decide +kernel, rfl⟩
theorem d_mod_dailyField_88 : cf_D k_mod_dailyField 88 (.invokevirtual 172) 3 91 := ⟨by decide +kernel, rfl⟩
theorem d_mod_dailyField_91 : cf_D k_mod_dailyField 91 (.goto 54) 3 94 := ⟨by decide +kernel, rfl⟩
theorem d_mod_dailyField_94 : cf_D k_mod_dailyField 94 (.iload_n 3) 1 95 := ⟨by decide +kernel, rfl⟩
theorem d_mod_dailyField_95 : cf_D k_mod_dailyField 95 (.bipush 109) 2 97 := ⟨by decide +kernel, rfl⟩
theorem d_mod_dailyField_97 : cf_D k_mod_dailyField 97 (.if_icmp .ne 16) 3 100 := ⟨by decide +kernel, rfl⟩
theorem d_mod_dailyField_100 : cf_D k_mod_dailyField 100 (.aload_n 0) 1 101 := ⟨by decide +kernel, rfl⟩
theorem d_mod_dailyField_101 : cf_D k_mod_dailyField 101 (.aload_n 0) 1 102 := ⟨by decide +kernel, rfl⟩
theorem d_mod_dailyField_102 : cf_D k_mod_dailyField 102 (.iload_n 2) 1 103 := ⟨by decide +kernel, rfl⟩
theorem d_mod_dailyField_103 : cf_D k_mod_dailyField 103 (.iconst 1) 1 104 := ⟨by decide +kernel, rfl⟩
theorem d_mod_dailyField_104 : cf_D k_mod_dailyField 104 (.invokevirtual 215) 3 107 := ⟨by decide +kernel, rfl⟩
theorem d_mod_dailyField_107 : cf_D k_mod_dailyField 107 (.invokevirtual 218) 3 110 := ⟨by decide +kernel, rfl⟩
theorem d_mod_dailyField_110 : cf_D k_mod_dailyField 110 (.goto 35) 3 113 := ⟨by decide +kernel, rfl⟩
theorem d_mod_dailyField_113 : cf_D k_mod_dailyField 113 (.iload 4) 2 115 := ⟨by decide +kernel, rfl⟩
theorem d_mod_dailyField_115 : cf_D k_mod_dailyField 115 (.iconst 3) 1 116 := ⟨by decide +kernel, rfl⟩
theorem d_mod_dailyField_116 : cf_D k_mod_dailyField 116 (.if_icmp .ge 19) 3 119 := ⟨by decide +kernel, rfl⟩
theorem d_mod_dailyField_119 : cf_D k_mod_dailyField 119 (.aload_n 0) 1 120 := ⟨by decide +kernel, rfl⟩
theorem d_mod_dailyField_120 : cf_D k_mod_dailyField 120 (.aload_n 0) 1 121 := ⟨by decide +kernel, rfl⟩
theorem d_mod_dailyField_121 : cf_D k_mod_dailyField 121 (.iload_n 2) 1 122 := ⟨by decide +kernel, rfl⟩
theorem d_mod_dailyField_122 : cf_D k_mod_dailyField 122 (.iconst 2) 1 123 := ⟨by decide +kernel, rfl⟩
theorem d_mod_dailyField_123 : cf_D k_mod_dailyField 123 (.invokevirtual 215) 3 126 := ⟨by decide +kernel, rfl⟩
theorem d_mod_dailyField_126 : cf_D k_mod_dailyField 126 (.i2l) 1 127 := ⟨by decide +kernel, rfl⟩
theorem d_mod_dailyField_127 : cf_D k_mod_dailyField 127 (.iload 4) 2 129 := ⟨by decide +kernel, rfl⟩
theorem d_mod_dailyField_129 : cf_D k_mod_dailyField 129 (.invokevirtual 172) 3 132 := ⟨by decide +kernel, rfl⟩
theorem d_mod_dailyField_132 : cf_D k_mod_dailyField 132 (.goto 13) 3 135 := ⟨by decide +kernel, rfl⟩
theorem d_mod_dailyField_135 : cf_D k_mod_dailyField 135 (.aload_n 0) 1 136 := ⟨by decide +kernel, rfl⟩
theorem d_mod_dailyField_136 : cf_D k_mod_dailyField 136 (.aload_n 0) 1 137 := ⟨by decide +kernel, rfl⟩
theorem d_mod_dailyField_137 : cf_D k_mod_dailyField 137 (.iload_n 2) 1 138 := ⟨by decide +kernel, rfl⟩
theorem d_mod_dailyField_138 : cf_D k_mod_dailyField 138 (.iconst 3) 1 139 := ⟨by decide +kernel, rfl⟩
theorem d_mod_dailyField_139 : cf_D k_mod_dailyField 139 (.invokevirtual 215) 3 142 := ⟨by decide +kernel, rfl⟩
theorem d_mod_dailyField_142 : cf_D k_mod_dailyField 142 (.invokevirtual 221) 3 145 := ⟨by decide +kernel, rfl⟩
theorem d_mod_dailyField_145 : cf_D k_mod_dailyField 145 (.return_) 1 146 := ⟨by decide +kernel, rfl⟩
theorem d_mod_putNumber_0 : cf_D k_mod_putNumber 0 (.lconst 1) 1 1 := ⟨by decide +kernel, rfl⟩
theorem d_mod_putNumber_1 : cf_D k_mod_putNumber 1 (.lstore 4) 2 3 := ⟨by decide +kernel, rfl⟩
theorem d_mod_putNumber_3 : cf_D k_mod_putNumber 3 (.iconst 1) 1 4 := ⟨by decide +kernel, rfl⟩
theorem d_mod_putNumber_4 : cf_D k_mod_putNumber 4 (.istore 6) 2 6 := ⟨by decide +kernel, rfl⟩
theorem d_mod_putNumber_6 : cf_D k_mod_putNumber 6 (.lload_n 1) 1 7 := ⟨by decide +kernel, rfl⟩
theorem d_mod_putNumber_7 : cf_D k_mod_putNumber 7 (.lload 4) 2 9 := ⟨by decide +kernel, rfl⟩
theorem d_mod_putNumber_9 : cf_D k_mod_putNumber 9 (.ldiv) 1 10 := ⟨by decide +kernel, rfl⟩
theorem d_mod_putNumber_10 : cf_D k_mod_putNumber 10 (.ldc2_w 135) 3 13 := ⟨by decide +kernel, rfl⟩
theorem d_mod_putNumber_13 : cf_D k_mod_putNumber 13 (.lcmp) 1 14 := ⟨by decide +kernel, rfl⟩
theorem d_mod_putNumber_14 : cf_D k_mod_putNumber 14 (.ifCond .ge 9) 3 17 := ⟨by decide +kernel, rfl⟩
theorem d_mod_putNumber_17 : cf_D k_mod_putNumber 17 (.iload 6) 2 19 := ⟨by decide +kernel, rfl⟩
theorem d_mod_putNumber_19 : cf_D k_mod_putNumber 19 (.iload_n 3) 1 20 := ⟨by decide +kernel, rfl⟩
theorem d_mod_putNumber_20 : cf_D k_mod_putNumber 20 (.if_icmp .ge 17) 3 23 := ⟨by decide +kernel, rfl⟩
theorem d_mod_putNumber_23 : cf_D k_mod_putNumber 23 (.lload 4) 2 25 := ⟨by decide +kernel, rfl⟩
theorem d_mod_putNumber_25 : cf_D k_mod_putNumber 25 (.ldc2_w 135) 3 28 := ⟨by decide +kernel, rfl⟩
theorem d_mod_putNumber_28 : cf_D k_mod_putNumber 28 (.lmul) 1 29 := ⟨by decide +kernel, rfl⟩
theorem d_mod_putNumber_29 : cf_D k_mod_putNumber 29 (.lstore 4) 2 31 := ⟨by decide +kernel, rfl⟩
theorem d_mod_putNumber_31 : cf_D k_mod_putNumber 31 (.iinc 6 1) 3 34 := ⟨by decide +kernel, rfl⟩
theorem d_mod_putNumber_34 : cf_D k_mod_putNumber 34 (.goto (-28)) 3 37 := ⟨by decide +kernel, rfl⟩
theorem d_mod_putNumber_37 : cf_D k_mod_putNumber 37 (.lload 4) 2 39 := ⟨by decide +kernel, rfl⟩
theorem d_mod_putNumber_39 : cf_D k_mod_putNumber 39 (.lconst 0) 1 40 := ⟨by decide +kernel, rfl⟩
theorem d_mod_putNumber_40 : cf_D k_mod_putNumber 40 (.lcmp) 1 41 := ⟨by decide +kernel, rfl⟩
theorem d_mod_putNumber_41 : cf_D k_mod_putNumber 41 (.ifCond .le 31) 3 44 := ⟨by decide +kernel, rfl⟩
theorem d_mod_putNumber_44 : cf_D k_mod_putNumber 44 (.aload_n 0) 1 45 := ⟨by decide +kernel, rfl⟩
theorem d_mod_putNumber_45 : cf_D k_mod_putNumber 45 (.ldc2_w 137) 3 48 := ⟨by decide +kernel, rfl⟩
theorem d_mod_putNumber_48 : cf_D k_mod_putNumber 48 (.lload_n 1) 1 49 := ⟨by decide +kernel, rfl⟩
theorem d_mod_putNumber_49 : cf_D k_mod_putNumber 49 (.lload 4) 2 51 := ⟨by decide +kernel, rfl⟩
theorem d_mod_putNumber_51 : cf_D k_mod_putNumber 51 (.ldiv) 1 52 := ⟨by decide +kernel, rfl⟩
theorem d_mod_putNumber_52 : cf_D k_mod_putNumber 52 (.ldc2_w 135) 3 55 := ⟨by decide +kernel, rfl⟩
theorem d_mod_putNumber_55 : cf_D k_mod_putNumber 55 (.lrem) 1 56 := ⟨by decide +kernel, rfl⟩
theorem d_mod_putNumber_56 : cf_D k_mod_putNumber 56 (.ladd) 1 57 := ⟨by decide +kernel, rfl⟩
theorem d_mod_putNumber_57 : cf_D k_mod_putNumber 57 (.l2i) 1 58 := ⟨by decide +kernel, rfl⟩
theorem d_mod_putNumber_58 : cf_D k_mod_putNumber 58 (.invokevirtual 132) 3 61 := ⟨by decide +kernel, rfl⟩
theorem d_mod_putNumber_61 : cf_D k_mod_putNumber 61 (.lload 4) 2 63 := ⟨by decide +kernel, rfl⟩
theorem d_mod_putNumber_63 : cf_D k_mod_putNumber 63 (.ldc2_w 135) 3 66 := ⟨by decide +kernel, rfl⟩
theorem d_mod_putNumber_66 : cf_D k_mod_putNumber 66 (.ldiv) 1 67 := ⟨by decide +kernel, rfl⟩
theorem d_mod_putNumber_67 : cf_D k_mod_putNumber 67 (.lstore 4) 2 69 := ⟨by decide +kernel, rfl⟩
theorem d_mod_putNumber_69 : cf_D k_mod_putNumber 69 (.goto (-32)) 3 72 := ⟨by decide +kernel, rfl⟩
theorem d_mod_putNumber_72 : cf_D k_mod_putNumber 72 (.return_) 1 73 := ⟨by decide +kernel, rfl⟩
theorem d_mod_month_0 : cf_D k_mod_month 0 (.iload_n 1) 1 1 := ⟨by decide +kernel, rfl⟩
theorem d_mod_month_1 : cf_D k_mod_month 1 (.iconst 1) 1 2 := ⟨by decide +kernel, rfl⟩
theorem d_mod_month_2 : cf_D k_mod_month 2 (.if_icmp .eq 15) 3 5 := ⟨by decide +kernel, rfl⟩
theorem d_mod_month_5 : cf_D k_mod_month 5 (.iload_n 1) 1 6 := ⟨by decide +kernel, rfl⟩
theorem d_mod_month_6 : cf_D k_mod_month 6 (.bipush 6) 2 8 := ⟨by decide +kernel, rfl⟩
theorem d_mod_month_8 : cf_D k_mod_month 8 (.if_icmp .eq 9) 3 11 := ⟨by decide +kernel, rfl⟩
theorem d_mod_month_11 : cf_D k_mod_month 11 (.iload_n 1) 1 12 := ⟨by decide +kernel, rfl⟩
theorem d_mod_month_12 : cf_D k_mod_month 12 (.bipush 7) 2 14 := ⟨by decide +kernel, rfl⟩
theorem d_mod_month_14 : cf_D k_mod_month 14 (.if_icmp .ne 8) 3 17 := ⟨by decide +kernel, rfl⟩
theorem d_mod_month_17 : cf_D k_mod_month 17 (.bipush 74) 2 19 := ⟨by decide +kernel, rfl⟩
theorem d_mod_month_19 : cf_D k_mod_month 19 (.goto 79) 3 22 := ⟨by decide +kernel, rfl⟩
theorem d_mod_month_22 : cf_D k_mod_month 22 (.iload_n 1) 1 23 := ⟨by decide +kernel, rfl⟩
theorem d_mod_month_23 : cf_D k_mod_month 23 (.iconst 2) 1 24 := ⟨by decide +kernel, rfl⟩
theorem d_mod_month_24 : cf_D k_mod_month 24 (.if_icmp .ne 8) 3 27 := ⟨by decide +kernel, rfl⟩
theorem d_mod_month_27 : cf_D k_mod_month 27 (.bipush 70) 2 29 := ⟨by decide +kernel, rfl⟩
theorem d_mod_month_29 : cf_D k_mod_month 29 (.goto 69) 3 32 := ⟨by decide +kernel, rfl⟩
theorem d_mod_month_32 : cf_D k_mod_month 32 (.iload_n 1) 1 33 := ⟨by decide +kernel, rfl⟩
theorem d_mod_month_33 : cf_D k_mod_month 33 (.iconst 3) 1 34 := ⟨by decide +kernel, rfl⟩
theorem d_mod_month_34 : cf_D k_mod_month 34 (.if_icmp .eq 8) 3 37 := ⟨by decide +kernel, rfl⟩
theorem d_mod_month_37 : cf_D k_mod_month 37 (.iload_n 1) 1 38 := ⟨by decide +kernel, rfl⟩
theorem d_mod_month_38 : cf_D k_mod_month 38 (.iconst 5) 1 39 := ⟨by decide +kernel, rfl⟩
theorem d_mod_month_39 : cf_D k_mod_month 39 (.if_icmp .ne 8) 3 42 := ⟨by decide +kernel, rfl⟩
theorem d_mod_month_42 : cf_D k_mod_month 42 (.bipush 77) 2 44 := ⟨by decide +kernel, rfl⟩
theorem d_mod_month_44 : cf_D k_mod_month 44 (.goto 54) 3 47 := ⟨by decide +kernel, rfl⟩
theorem d_mod_month_47 : cf_D k_mod_month 47 (.iload_n 1) 1 48 := ⟨by decide +kernel, rfl⟩
theorem d_mod_month_48 : cf_D k_mod_month 48 (.iconst 4) 1 49 := ⟨by decide +kernel, rfl⟩
theorem d_mod_month_49 : cf_D k_mod_month 49 (.if_icmp .eq 9) 3 52 := ⟨by decide +kernel, rfl⟩
theorem d_mod_month_52 : cf_D k_mod_month 52 (.iload_n 1) 1 53 := ⟨by decide +kernel, rfl⟩
theorem d_mod_month_53 : cf_D k_mod_month 53 (.bipush 8) 2 55 := ⟨by decide +kernel, rfl⟩
theorem d_mod_month_55 : cf_D k_mod_month 55 (.if_icmp .ne 8) 3 58 := ⟨by decide +kernel, rfl⟩
theorem d_mod_month_58 : cf_D k_mod_month 58 (.bipush 65) 2 60 := ⟨by decide +kernel, rfl⟩
theorem d_mod_month_60 : cf_D k_mod_month 60 (.goto 38) 3 63 := ⟨by decide +kernel, rfl⟩
theorem d_mod_month_63 : cf_D k_mod_month 63 (.iload_n 1) 1 64 := ⟨by decide +kernel, rfl⟩
theorem d_mod_month_64 : cf_D k_mod_month 64 (.bipush 9) 2 66 := ⟨by decide +kernel, rfl⟩
theorem d_mod_month_66 : cf_D k_mod_month 66 (.if_icmp .ne 8) 3 69 := ⟨by decide +kernel, rfl⟩
theorem d_mod_month_69 : cf_D k_mod_month 69 (.bipush 83) 2 71 := ⟨by decide +kernel, rfl⟩
theorem d_mod_month_71 : cf_D k_mod_month 71 (.goto 27) 3 74 := ⟨by decide +kernel, rfl⟩
theorem d_mod_month_74 : cf_D k_mod_month 74 (.iload_n 1) 1 75 := ⟨by decide +kernel, rfl⟩
theorem d_mod_month_75 : cf_D k_mod_month 75 (.bipush 10) 2 77 := ⟨by decide +kernel, rfl⟩
theorem d_mod_month_77 : cf_D k_mod_month 77 (.if_icmp .ne 8) 3 80 := ⟨by decide +kernel, rfl⟩
theorem d_mod_month_80 : cf_D k_mod_month 80 (.bipush 79) 2 82 := ⟨by decide +kernel, rfl⟩
theorem d_mod_month_82 : cf_D k_mod_month 82 (.goto 16) 3 85 := ⟨by decide +kernel, rfl⟩
theorem d_mod_month_85 : cf_D k_mod_month 85 (.iload_n 1) 1 86 := ⟨by decide +kernel, rfl⟩
theorem d_mod_month_86 : cf_D k_mod_month 86 (.bipush 11) 2 88 := ⟨by decide +kernel, rfl⟩
theorem d_mod_month_88 : cf_D k_mod_month 88 (.if_icmp .ne 8) 3 91 := ⟨by decide +kernel, rfl⟩
theorem d_mod_month_91 : cf_D k_mod_month 91 (.bipush 78) 2 93 := ⟨by decide +kernel, rfl⟩
theorem d_mod_month_93 : cf_D k_mod_month 93 (.goto 5) 3 96 := ⟨by decide +kernel, rfl⟩
theorem d_mod_month_96 : cf_D k_mod_month 96 (.bipush 68) 2 98 := ⟨by decide +kernel, rfl⟩
theorem d_mod_month_98 : cf_D k_mod_month 98 (.istore_n 2) 1 99 := ⟨by decide +kernel, rfl⟩
theorem d_mod_month_99 : cf_D k_mod_month 99 (.iload_n 1) 1 100 := ⟨by decide +kernel, rfl⟩
theorem d_mod_month_100 : cf_D k_mod_month 100 (.iconst 1) 1 101 := ⟨by decide +kernel, rfl⟩
theorem d_mod_month_101 : cf_D k_mod_month 101 (.if_icmp .eq 13) 3 104 := ⟨by decide +kernel, rfl⟩
theorem d_mod_month_104 : cf_D k_mod_month 104 (.iload_n 1) 1 105 := ⟨by decide +kernel, rfl⟩
theorem d_mod_month_105 : cf_D k_mod_month 105 (.iconst 3) 1 106 := ⟨by decide +kernel, rfl⟩
theorem d_mod_month_106 : cf_D k_mod_month 106 (.if_icmp .eq 8) 3 109 := ⟨by decide +kernel, rfl⟩
theorem d_mod_month_109 : cf_D k_mod_month 109 (.iload_n 1) 1 110 := ⟨by decide +kernel, rfl⟩
theorem d_mod_month_110 : cf_D k_mod_month 110 (.iconst 5) 1 111 := ⟨by decide +kernel, rfl⟩
theorem d_mod_month_111 : cf_D k_mod_month 111 (.if_icmp .ne 8) 3 114 := ⟨by decide +kernel, rfl⟩
theorem d_mod_month_114 : cf_D k_mod_month 114 (.bipush 97) 2 116 := ⟨by decide +kernel, rfl⟩
theorem d_mod_month_116 : cf_D k_mod_month 116 (.goto 60) 3 119 := ⟨by decide +kernel, rfl⟩
theorem d_mod_month_119 : cf_D k_mod_month 119 (.iload_n 1) 1 120 := ⟨by decide +kernel, rfl⟩
theorem d_mod_month_120 : cf_D k_mod_month 120 (.iconst 4) 1 121 := ⟨by decide +kernel, rfl⟩
theorem d_mod_month_121 : cf_D k_mod_month 121 (.if_icmp .ne 8) 3 124 := ⟨by decide +kernel, rfl⟩
theorem d_mod_month_124 : cf_D k_mod_month 124 (.bipush 112) 2 126 := ⟨by decide +kernel, rfl⟩
theorem d_mod_month_126 : cf_D k_mod_month 126 (.goto 50) 3 129 := ⟨by decide +kernel, rfl⟩
theorem d_mod_month_129 : cf_D k_mod_month 129 (.iload_n 1) 1 130 := ⟨by decide +kernel, rfl⟩
theorem d_mod_month_130 : cf_D k_mod_month 130 (.bipush 6) 2 132 := ⟨by decide +kernel, rfl⟩
theorem d_mod_month_132 : cf_D k_mod_month 132 (.if_icmp .eq 15) 3 135 := ⟨by decide +kernel, rfl⟩
theorem d_mod_month_135 : cf_D k_mod_month 135 (.iload_n 1) 1 136 := ⟨by decide +kernel, rfl⟩
theorem d_mod_month_136 : cf_D k_mod_month 136 (.bipush 7) 2 138 := ⟨by decide +kernel, rfl⟩
theorem d_mod_month_138 : cf_D k_mod_month 138 (.if_icmp .eq 9) 3 141 := ⟨by decide +kernel, rfl⟩
theorem d_mod_month_141 : cf_D k_mod_month 141 (.iload_n 1) 1 142 := ⟨by decide +kernel, rfl⟩
theorem d_mod_month_142 : cf_D k_mod_month 142 (.bipush 8) 2 144 := ⟨by decide +kernel, rfl⟩
theorem d_mod_month_144 : cf_D k_mod_month 144 (.if_icmp .ne 8) 3 147 := ⟨by decide +kernel, rfl⟩
theorem d_mod_month_147 : cf_D k_mod_month 147 (.bipush 117) 2 149 := ⟨by decide +kernel, rfl⟩
theorem d_mod_month_149 : cf_D k_mod_month 149 (.goto 27) 3 152 := ⟨by decide +kernel, rfl⟩
theorem d_mod_month_152 : cf_D k_mod_month 152 (.iload_n 1) 1 153 := ⟨by decide +kernel, rfl⟩
theorem d_mod_month_153 : cf_D k_mod_month 153 (.bipush 10) 2 155 := ⟨by decide +kernel, rfl⟩
theorem d_mod_month_155 : cf_D k_mod_month 155 (.if_icmp .ne 8) 3 158 := ⟨by decide +kernel, rfl⟩
theorem d_mod_month_158 : cf_D k_mod_month 158 (.bipush 99) 2 160 := ⟨by decide +kernel, rfl⟩
theorem d_mod_month_160 : cf_D k_mod_month 160 (.goto 16) 3 163 := ⟨by decide +kernel, rfl⟩
theorem d_mod_month_163 : cf_D k_mod_month 163 (.iload_n 1) 1 164 := ⟨by decide +kernel, rfl⟩
theorem d_mod_month_164 : cf_D k_mod_month 164 (.bipush 11) 2 166 := ⟨by decide +kernel, rfl⟩
theorem d_mod_month_166 : cf_D k_mod_month 166 (.if_icmp .ne 8) 3 169 := ⟨by decide +kernel, rfl⟩
theorem d_mod_month_169 : cf_D k_mod_month 169 (.bipush 111) 2 171 := ⟨by decide +kernel, rfl⟩
theorem d_mod_month_171 : cf_D k_mod_month 171 (.goto 5) 3 174 := ⟨by decide +kernel, rfl⟩
theorem d_mod_month_174 : cf_D k_mod_month 174 (.bipush 101) 2 176 := ⟨by decide +kernel, rfl⟩
theorem d_mod_month_176 : cf_D k_mod_month 176 (.istore_n 3) 1 177 := ⟨by decide +kernel, rfl⟩
theorem d_mod_month_177 : cf_D k_mod_month 177 (.iload_n 1) 1 178 := ⟨by decide +kernel, rfl⟩
theorem d_mod_month_178 : cf_D k_mod_month 178 (.iconst 1) 1 179 := ⟨by decide +kernel, rfl⟩
theorem d_mod_month_179 : cf_D k_mod_month 179 (.if_icmp .eq 9) 3 182 := ⟨by decide +kernel, rfl⟩
theorem d_mod_month_182 : cf_D k_mod_month 182 (.iload_n 1) 1 183 := ⟨by decide +kernel, rfl⟩
theorem d_mod_month_183 : cf_D k_mod_month 183 (.bipush 6) 2 185 := ⟨by decide +kernel, rfl⟩
theorem d_mod_month_185 : cf_D k_mod_month 185 (.if_icmp .ne 8) 3 188 := ⟨by decide +kernel, rfl⟩
theorem d_mod_month_188 : cf_D k_mod_month 188 (.bipush 110) 2 190 := ⟨by decide +kernel, rfl⟩
theorem d_mod_month_190 : cf_D k_mod_month 190 (.goto 95) 3 193 := ⟨by decide +kernel, rfl⟩
theorem d_mod_month_193 : cf_D k_mod_month 193 (.iload_n 1) 1 194 := ⟨by decide +kernel, rfl⟩
theorem d_mod_month_194 : cf_D k_mod_month 194 (.iconst 2) 1 195 := ⟨by decide +kernel, rfl⟩
theorem d_mod_month_195 : cf_D k_mod_month 195 (.if_icmp .ne 8) 3 198 := ⟨by decide +kernel, rfl⟩
theorem d_mod_month_198 : cf_D k_mod_month 198 (.bipush 98) 2 200 := ⟨by decide +kernel, rfl⟩
theorem d_mod_month_200 : cf_D k_mod_month 200 (.goto 85) 3 203 := ⟨by decide +kernel, rfl⟩
theorem d_mod_month_203 : cf_D k_mod_month 203 (.iload_n 1) 1 204 := ⟨by decide +kernel, rfl⟩
theorem d_mod_month_204 : cf_D k_mod_month 204 (.iconst 3) 1 205 := ⟨by decide +kernel, rfl⟩
theorem d_mod_month_205 : cf_D k_mod_month 205 (.if_icmp .eq 8) 3 208 := ⟨by decide +kernel, rfl⟩
theorem d_mod_month_208 : cf_D k_mod_month 208 (.iload_n 1) 1 209 := ⟨by decide +kernel, rfl⟩
theorem d_mod_month_209 : cf_D k_mod_month 209 (.iconst 4) 1 210 := ⟨by decide +kernel, rfl⟩
theorem d_mod_month_210 : cf_D k_mod_month 210 (.if_icmp .ne 8) 3 213 := ⟨by decide +kernel, rfl⟩
theorem d_mod_month_213 : cf_D k_mod_month 213 (.bipush 114) 2 215 := ⟨by decide +kernel, rfl⟩
theorem d_mod_month_215 : cf_D k_mod_month 215 (.goto 70) 3 218 := ⟨by decide +kernel, rfl⟩
theorem d_mod_month_218 : cf_D k_mod_month 218 (.iload_n 1) 1 219 := ⟨by decide +kernel, rfl⟩
theorem d_mod_month_219 : cf_D k_mod_month 219 (.iconst 5) 1 220 := ⟨by decide +kernel, rfl⟩
theorem d_mod_month_220 : cf_D k_mod_month 220 (.if_icmp .ne 8) 3 223 := ⟨by decide +kernel, rfl⟩
theorem d_mod_month_223 : cf_D k_mod_month 223 (.bipush 121) 2 225 := ⟨by decide +kernel, rfl⟩
theorem d_mod_month_225 : cf_D k_mod_month 225 (.goto 60) 3 228 := ⟨by decide +kernel, rfl⟩
theorem d_mod_month_228 : cf_D k_mod_month 228 (.iload_n 1) 1 229 := ⟨by decide +kernel, rfl⟩
theorem d_mod_month_229 : cf_D k_mod_month 229 (.bipush 7) 2 231 := ⟨by decide +kernel, rfl⟩
theorem d_mod_month_231 : cf_D k_mod_month 231 (.if_icmp .ne 8) 3 234 := ⟨by decide +kernel, rfl⟩
theorem d_mod_month_234 : cf_D k_mod_month 234 (.bipush 108) 2 236 := ⟨by decide +kernel, rfl⟩
theorem d_mod_month_236 : cf_D k_mod_month 236 (.goto 49) 3 239 := ⟨by decide +kernel, rfl⟩
theorem d_mod_month_239 : cf_D k_mod_month 239 (.iload_n 1) 1 240 := ⟨by decide +kernel, rfl⟩
theorem d_mod_month_240 : cf_D k_mod_month 240 (.bipush 8) 2 242 := ⟨by decide +kernel, rfl⟩
theorem d_mod_month_242 : cf_D k_mod_month 242 (.if_icmp .ne 8) 3 245 := ⟨by decide +kernel, rfl⟩
theorem d_mod_month_245 : cf_D k_mod_month 245 (.bipush 103) 2 247 := ⟨by decide +kernel, rfl⟩
theorem d_mod_month_247 : cf_D k_mod_month 247 (.goto 38) 3 250 := ⟨by decide +kernel, rfl⟩
theorem d_mod_month_250 : cf_D k_mod_month 250 (.iload_n 1) 1 251 := ⟨by decide +kernel, rfl⟩
theorem d_mod_month_251 : cf_D k_mod_month 251 (.bipush 9) 2 253 := ⟨by decide +kernel, rfl⟩
theorem d_mod_month_253 : cf_D k_mod_month 253 (.if_icmp .ne 8) 3 256 := ⟨by decide +kernel, rfl⟩
theorem d_mod_month_256 : cf_D k_mod_month 256 (.bipush 112) 2 258 := ⟨by decide +kernel, rfl⟩
theorem d_mod_month_258 : cf_D k_mod_month 258 (.goto 27) 3 261 := ⟨by decide +kernel, rfl⟩
theorem d_mod_month_261 : cf_D k_mod_month 261 (.iload_n 1) 1 262 := ⟨by decide +kernel, rfl⟩
theorem d_mod_month_262 : cf_D k_mod_month 262 (.bipush 10) 2 264 := ⟨by decide +kernel, rfl⟩
theorem d_mod_month_264 : cf_D k_mod_month 264 (.if_icmp .ne 8) 3 267 := ⟨by decide +kernel, rfl⟩
theorem d_mod_month_267 : cf_D k_mod_month 267 (.bipush 116) 2 269 := ⟨by decide +kernel, rfl⟩
theorem d_mod_month_269 : cf_D k_mod_month 269 (.goto 16) 3 272 := ⟨by decide +kernel, rfl⟩
theorem d_mod_month_272 : cf_D k_mod_month 272 (.iload_n 1) 1 273 := ⟨by decide +kernel, rfl⟩
theorem d_mod_month_273 : cf_D k_mod_month 273 (.bipush 11) 2 275 := ⟨by decide +kernel, rfl⟩
theorem d_mod_month_275 : cf_D k_mod_month 275 (.if_icmp .ne 8) 3 278 := ⟨by decide +kernel, rfl⟩
theorem d_mod_month_278 : cf_D k_mod_month 278 (.bipush 118) 2 280 := ⟨by decide +kernel, rfl⟩
theorem d_mod_month_280 : cf_D k_mod_month 280 (.goto 5) 3 283 := ⟨by decide +kernel, rfl⟩
theorem d_mod_month_283 : cf_D k_mod_month 283 (.bipush 99) 2 285 := ⟨by decide +kernel, rfl⟩
theorem d_mod_month_285 : cf_D k_mod_month 285 (.istore 4) 2 287 := ⟨by decide +kernel, rfl⟩
theorem d_mod_month_287 : cf_D k_mod_month 287 (.aload_n 0) 1 288 := ⟨by decide +kernel, rfl⟩
theorem d_mod_month_288 : cf_D k_mod_month 288 (.iload_n 2) 1 289 := ⟨by decide +kernel, rfl⟩
theorem d_mod_month_289 : cf_D k_mod_month 289 (.invokevirtual 132) 3 292 := ⟨by decide +kernel, rfl⟩
theorem d_mod_month_292 : cf_D k_mod_month 292 (.aload_n 0) 1 293 := ⟨by decide +kernel, rfl⟩
theorem d_mod_month_293 : cf_D k_mod_month 293 (.iload_n 3) 1 294 := ⟨by decide +kernel, rfl⟩
theorem d_mod_month_294 : cf_D k_mod_month 294 (.invokevirtual 132) 3 297 := ⟨by decide +kernel, rfl⟩
theorem d_mod_month_297 : cf_D k_mod_month 297 (.aload_n 0) 1 298 := ⟨by decide +kernel, rfl⟩
theorem d_mod_month_298 : cf_D k_mod_month 298 (.iload 4) 2 300 := ⟨by decide +kernel, rfl⟩
theorem d_mod_month_300 : cf_D k_mod_month 300 (.invokevirtual 132) 3 303 := ⟨by decide +kernel, rfl⟩
theorem d_mod_month_303 : cf_D k_mod_month 303 (.return_) 1 304 := ⟨by decide +kernel, rfl⟩
theorem d_mod_weekday_0 : cf_D k_mod_weekday 0 (.aload_n 0) 1 1 := ⟨by decide +kernel, rfl⟩
theorem d_mod_weekday_1 : cf_D k_mod_weekday 1 (.iload_n 1) 1 2 := ⟨by decide +kernel, rfl⟩
theorem d_mod_weekday_2 : cf_D k_mod_weekday 2 (.iconst 1) 1 3 := ⟨by decide +kernel, rfl⟩
theorem d_mod_weekday_3 : cf_D k_mod_weekday 3 (.if_icmp .eq 9) 3 6 := ⟨by decide +kernel, rfl⟩
theorem d_mod_weekday_6 : cf_D k_mod_weekday 6 (.iload_n 1) 1 7 := ⟨by decide +kernel, rfl⟩
theorem d_mod_weekday_7 : cf_D k_mod_weekday 7 (.bipush 7) 2 9 := ⟨by decide +kernel, rfl⟩
theorem d_mod_weekday_9 : cf_D k_mod_weekday 9 (.if_icmp .ne 8) 3 12 := ⟨by decide +kernel, rfl⟩
theorem d_mod_weekday_12 : cf_D k_mod_weekday 12 (.bipush 83) 2 14 := ⟨by decide +kernel, rfl⟩
theorem d_mod_weekday_14 : cf_D k_mod_weekday 14 (.goto 40) 3 17 := ⟨by decide +kernel, rfl⟩
theorem d_mod_weekday_17 : cf_D k_mod_weekday 17 (.iload_n 1) 1 18 := ⟨by decide +kernel, rfl⟩
theorem d_mod_weekday_18 : cf_D k_mod_weekday 18 (.iconst 2) 1 19 := ⟨by decide +kernel, rfl⟩
theorem d_mod_weekday_19 : cf_D k_mod_weekday 19 (.if_icmp .ne 8) 3 22 := ⟨by decide +kernel, rfl⟩
theorem d_mod_weekday_22 : cf_D k_mod_weekday 22 (.bipush 77) 2 24 := ⟨by decide +kernel, rfl⟩
theorem d_mod_weekday_24 : cf_D k_mod_weekday 24 (.goto 30) 3 27 := ⟨by decide +kernel, rfl⟩
theorem d_mod_weekday_27 : cf_D k_mod_weekday 27 (.iload_n 1) 1 28 := ⟨by decide +kernel, rfl⟩
theorem d_mod_weekday_28 : cf_D k_mod_weekday 28 (.iconst 3) 1 29 := ⟨by decide +kernel, rfl⟩
theorem d_mod_weekday_29 : cf_D k_mod_weekday 29 (.if_icmp .eq 8) 3 32 := ⟨by decide +kernel, rfl⟩
theorem d_mod_weekday_32 : cf_D k_mod_weekday 32 (.iload_n 1) 1 33 := ⟨by decide +kernel, rfl⟩
theorem d_mod_weekday_33 : cf_D k_mod_weekday 33 (.iconst 5) 1 34 := ⟨by decide +kernel, rfl⟩
theorem d_mod_weekday_34 : cf_D k_mod_weekday 34 (.if_icmp .ne 8) 3 37 := ⟨by decide +kernel, rfl⟩
theorem d_mod_weekday_37 : cf_D k_mod_weekday 37 (.bipush 84) 2 39 := ⟨by decide +kernel, rfl⟩
theorem d_mod_weekday_39 : cf_D k_mod_weekday 39 (.goto 15) 3 42 := ⟨by decide +kernel, rfl⟩
theorem d_mod_weekday_42 : cf_D k_mod_weekday 42 (.iload_n 1) 1 43 := ⟨by decide +kernel, rfl⟩
theorem d_mod_weekday_43 : cf_D k_mod_weekday 43 (.iconst 4) 1 44 := ⟨by decide +kernel, rfl⟩
theorem d_mod_weekday_44 : cf_D k_mod_weekday 44 (.if_icmp .ne 8) 3 47 := ⟨by decide +kernel, rfl⟩
theorem d_mod_weekday_47 : cf_D k_mod_weekday 47 (.bipush 87) 2 49 := ⟨by decide +kernel, rfl⟩
theorem d_mod_weekday_49 : cf_D k_mod_weekday 49 (.goto 5) 3 52 := ⟨by decide +kernel, rfl⟩
theorem d_mod_weekday_52 : cf_D k_mod_weekday 52 (.bipush 70) 2 54 := ⟨by decide +kernel, rfl⟩
theorem d_mod_weekday_54 : cf_D k_mod_weekday 54 (.invokevirtual 132) 3 57 := ⟨by decide +kernel, rfl⟩
theorem d_mod_weekday_57 : cf_D k_mod_weekday 57 (.aload_n 0) 1 58 := ⟨by decide +kernel, rfl⟩
theorem d_mod_weekday_58 : cf_D k_mod_weekday 58 (.iload_n 1) 1 59 := ⟨by decide +kernel, rfl⟩
theorem d_mod_weekday_59 : cf_D k_mod_weekday 59 (.iconst 1) 1 60 := ⟨by decide +kernel, rfl⟩
theorem d_mod_weekday_60 : cf_D k_mod_weekday 60 (.if_icmp .eq 8) 3 63 := ⟨by decide +kernel, rfl⟩
theorem d_mod_weekday_63 : cf_D k_mod_weekday 63 (.iload_n 1) 1 64 := ⟨by decide +kernel, rfl⟩
theorem d_mod_weekday_64 : cf_D k_mod_weekday 64 (.iconst 3) 1 65 := ⟨by decide +kernel, rfl⟩
theorem d_mod_weekday_65 : cf_D k_mod_weekday 65 (.if_icmp .ne 8) 3 68 := ⟨by decide +kernel, rfl⟩
theorem d_mod_weekday_68 : cf_D k_mod_weekday 68 (.bipush 117) 2 70 := ⟨by decide +kernel, rfl⟩
theorem d_mod_weekday_70 : cf_D k_mod_weekday 70 (.goto 46) 3 73 := ⟨by decide +kernel, rfl⟩
theorem d_mod_weekday_73 : cf_D k_mod_weekday 73 (.iload_n 1) 1 74 := ⟨by decide +kernel, rfl⟩
theorem d_mod_weekday_74 : cf_D k_mod_weekday 74 (.iconst 2) 1 75 := ⟨by decide +kernel, rfl⟩
theorem d_mod_weekday_75 : cf_D k_mod_weekday 75 (.if_icmp .ne 8) 3 78 := ⟨by decide +kernel, rfl⟩
theorem d_mod_weekday_78 : cf_D k_mod_weekday 78 (.bipush 111) 2 80 := ⟨by decide +kernel, rfl⟩
theorem d_mod_weekday_80 : cf_D k_mod_weekday 80 (.goto 36) 3 83 := ⟨by decide +kernel, rfl⟩
theorem d_mod_weekday_83 : cf_D k_mod_weekday 83 (.iload_n 1) 1 84 := ⟨by decide +kernel, rfl⟩
theorem d_mod_weekday_84 : cf_D k_mod_weekday 84 (.iconst 4) 1 85 := ⟨by decide +kernel, rfl⟩
theorem d_mod_weekday_85 : cf_D k_mod_weekday 85 (.if_icmp .ne 8) 3 88 := ⟨by decide +kernel, rfl⟩
theorem d_mod_weekday_88 : cf_D k_mod_weekday 88 (.bipush 101) 2 90 := ⟨by decide +kernel, rfl⟩
theorem d_mod_weekday_90 : cf_D k_mod_weekday 90 (.goto 26) 3 93 := ⟨by decide +kernel, rfl⟩
theorem d_mod_weekday_93 : cf_D k_mod_weekday 93 (.iload_n 1) 1 94 := ⟨by decide +kernel, rfl⟩
theorem d_mod_weekday_94 : cf_D k_mod_weekday 94 (.iconst 5) 1 95 := ⟨by decide +kernel, rfl⟩
theorem d_mod_weekday_95 : cf_D k_mod_weekday 95 (.if_icmp .ne 8) 3 98 := ⟨by decide +kernel, rfl⟩
theorem d_mod_weekday_98 : cf_D k_mod_weekday 98 (.bipush 104) 2 100 := ⟨by decide +kernel, rfl⟩
theorem d_mod_weekday_100 : cf_D k_mod_weekday 100 (.goto 16) 3 103 := ⟨by decide +kernel, rfl⟩
theorem d_mod_weekday_103 : cf_D k_mod_weekday 103 (.iload_n 1) 1 104 := ⟨by decide +kernel, rfl⟩
theorem d_mod_weekday_104 : cf_D k_mod_weekday 104 (.bipush 6) 2 106 := ⟨by decide +kernel, rfl⟩
theorem d_mod_weekday_106 : cf_D k_mod_weekday 106 (.if_icmp .ne 8) 3 109 := ⟨by decide +kernel, rfl⟩
theorem d_mod_weekday_109 : cf_D k_mod_weekday 109 (.bipush 114) 2 111 := ⟨by decide +kernel, rfl⟩
theorem d_mod_weekday_111 : cf_D k_mod_weekday 111 (.goto 5) 3 114 := ⟨by decide +kernel, rfl⟩
theorem d_mod_weekday_114 : cf_D k_mod_weekday 114 (.bipush 97) 2 116 := ⟨by decide +kernel, rfl⟩
theorem d_mod_weekday_116 : cf_D k_mod_weekday 116 (.invokevirtual 132) 3 119 := ⟨by decide +kernel, rfl⟩
theorem d_mod_weekday_119 : cf_D k_mod_weekday 119 (.aload_n 0) 1 120 := ⟨by decide +kernel, rfl⟩
theorem d_mod_weekday_120 : cf_D k_mod_weekday 120 (.iload_n 1) 1 121 := ⟨by decide +kernel, rfl⟩
theorem d_mod_weekday_121 : cf_D k_mod_weekday 121 (.iconst 1) 1 122 := ⟨by decide +kernel, rfl⟩
theorem d_mod_weekday_122 : cf_D k_mod_weekday 122 (.if_icmp .eq 8) 3 125 := ⟨by decide +kernel, rfl⟩
theorem d_mod_weekday_125 : cf_D k_mod_weekday 125 (.iload_n 1) 1 126 := ⟨by decide +kernel, rfl⟩
theorem d_mod_weekday_126 : cf_D k_mod_weekday 126 (.iconst 2) 1 127 := ⟨by decide +kernel, rfl⟩
theorem d_mod_weekday_127 : cf_D k_mod_weekday 127 (.if_icmp .ne 8) 3 130 := ⟨by decide +kernel, rfl⟩
theorem d_mod_weekday_130 : cf_D k_mod_weekday 130 (.bipush 110) 2 132 := ⟨by decide +kernel, rfl⟩
theorem d_mod_weekday_132 : cf_D k_mod_weekday 132 (.goto 46) 3 135 := ⟨by decide +kernel, rfl⟩
theorem d_mod_weekday_135 : cf_D k_mod_weekday 135 (.iload_n 1) 1 136 := ⟨by decide +kernel, rfl⟩
theorem d_mod_weekday_136 : cf_D k_mod_weekday 136 (.iconst 3) 1 137 := ⟨by decide +kernel, rfl⟩
theorem d_mod_weekday_137 : cf_D k_mod_weekday 137 (.if_icmp .ne 8) 3 140 := ⟨by decide +kernel, rfl⟩
theorem d_mod_weekday_140 : cf_D k_mod_weekday 140 (.bipush 101) 2 142 := ⟨by decide +kernel, rfl⟩
theorem d_mod_weekday_142 : cf_D k_mod_weekday 142 (.goto 36) 3 145 := ⟨by decide +kernel, rfl⟩
theorem d_mod_weekday_145 : cf_D k_mod_weekday 145 (.iload_n 1) 1 146 := ⟨by decide +kernel, rfl⟩
theorem d_mod_weekday_146 : cf_D k_mod_weekday 146 (.iconst 4) 1 147 := ⟨by decide +kernel, rfl⟩
theorem d_mod_weekday_147 : cf_D k_mod_weekday 147 (.if_icmp .ne 8) 3 150 := ⟨by decide +kernel, rfl⟩
theorem d_mod_weekday_150 : cf_D k_mod_weekday 150 (.bipush 100) 2 152 := ⟨by decide +kernel, rfl⟩
theorem d_mod_weekday_152 : cf_D k_mod_weekday 152 (.goto 26) 3 155 := ⟨by decide +kernel, rfl⟩
theorem d_mod_weekday_155 : cf_D k_mod_weekday 155 (.iload_n 1) 1 156 := ⟨by decide +kernel, rfl⟩
theorem d_mod_weekday_156 : cf_D k_mod_weekday 156 (.iconst 5) 1 157 := ⟨by decide +kernel, rfl⟩
theorem d_mod_weekday_157 : cf_D k_mod_weekday 157 (.if_icmp .ne 8) 3 160 := ⟨by decide +kernel, rfl⟩
theorem d_mod_weekday_160 : cf_D k_mod_weekday 160 (.bipush 117) 2 162 := ⟨by decide +kernel, rfl⟩
theorem d_mod_weekday_162 : cf_D k_mod_weekday 162 (.goto 16) 3 165 := ⟨by decide +kernel, rfl⟩
theorem d_mod_weekday_165 : cf_D k_mod_weekday 165 (.iload_n 1) 1 166 := ⟨by decide +kernel, rfl⟩
theorem d_mod_weekday_166 : cf_D k_mod_weekday 166 (.bipush 6) 2 168 := ⟨by decide +kernel, rfl⟩
end
section
/-! decode rows -/
theorem d_mod_weekday_168 : cf_D k_mod_weekday 168 (.if_icmp .ne 8) 3 171 := ⟨by decide +kernel, rfl⟩
theorem d_mod_weekday_171 : cf_D k_mod_weekday 171 (.bipush 105) 2 173 := ⟨by decide +kernel, rfl⟩
theorem d_mod_weekday_173 : cf_D k_mod_weekday 173 (.goto 5) 3 176 := ⟨by decide +kernel, rfl⟩
theorem d_mod_weekday_176 : cf_D k_mod_weekday 176 (.bipush 116) 2 178 := ⟨by decide +kernel, rfl⟩
theorem d_mod_weekday_178 : cf_D k_mod_weekday 178 (.invokevirtual 132) 3 181 := ⟨by decide +kernel, rfl⟩
theorem d_mod_weekday_181 : cf_D k_mod_weekday 181 (.return_) 1 182 := ⟨by decide +kernel, rfl⟩
theorem d_mod_timeField_0 : cf_D k_mod_timeField 0 (.iload 5) 2 2 := ⟨by decide +kernel, rfl⟩
theorem d_mod_timeField_2 : cf_D k_mod_timeField 2 (.sipush 3600) 3 5 := ⟨by decide +kernel, rfl⟩
theorem d_mod_timeField_5 : cf_D k_mod_timeField 5 (.idiv) 1 6 := ⟨by decide +kernel, rfl⟩
theorem d_mod_timeField_6 : cf_D k_mod_timeField 6 (.istore 6) 2 8 := ⟨by decide +kernel, rfl⟩
theorem d_mod_timeField_8 : cf_D k_mod_timeField 8 (.ldc2_w 224) 3 11 := ⟨by decide +kernel, rfl⟩
theorem d_mod_timeField_11 : cf_D k_mod_timeField 11 (.lload_n 3) 1 12 := ⟨by decide +kernel, rfl⟩
theorem d_mod_timeField_12 : cf_D k_mod_timeField 12 (.lmul) 1 13 := ⟨by decide +kernel, rfl⟩
theorem d_mod_timeField_13 : cf_D k_mod_timeField 13 (.iload 5) 2 15 := ⟨by decide +kernel, rfl⟩
theorem d_mod_timeField_15 : cf_D k_mod_timeField 15 (.i2l) 1 16 := ⟨by decide +kernel, rfl⟩
theorem d_mod_timeField_16 : cf_D k_mod_timeField 16 (.ladd) 1 17 := ⟨by decide +kernel, rfl⟩
theorem d_mod_timeField_17 : cf_D k_mod_timeField 17 (.lstore 7) 2 19 := ⟨by decide +kernel, rfl⟩
theorem d_mod_timeField_19 : cf_D k_mod_timeField 19 (.aload_n 0) 1 20 := ⟨by decide +kernel, rfl⟩
theorem d_mod_timeField_20 : cf_D k_mod_timeField 20 (.aload_n 0) 1 21 := ⟨by decide +kernel, rfl⟩
theorem d_mod_timeField_21 : cf_D k_mod_timeField 21 (.getfield 25) 3 24 := ⟨by decide +kernel, rfl⟩
theorem d_mod_timeField_24 : cf_D k_mod_timeField 24 (.iload_n 1) 1 25 := ⟨by decide +kernel, rfl⟩
theorem d_mod_timeField_25 : cf_D k_mod_timeField 25 (.iaload) 1 26 := ⟨by decide +kernel, rfl⟩
theorem d_mod_timeField_26 : cf_D k_mod_timeField 26 (.aload_n 0) 1 27 := ⟨by decide +kernel, rfl⟩
theorem d_mod_timeField_27 : cf_D k_mod_timeField 27 (.getfield 25) 3 30 := ⟨by decide +kernel, rfl⟩
theorem d_mod_timeField_30 : cf_D k_mod_timeField 30 (.iload_n 1) 1 31 := ⟨by decide +kernel, rfl⟩
theorem d_mod_timeField_31 : cf_D k_mod_timeField 31 (.iconst 1) 1 32 := ⟨by decide +kernel, rfl⟩
theorem d_mod_timeField_32 : cf_D k_mod_timeField 32 (.iadd) 1 33 := ⟨by decide +kernel, rfl⟩
theorem d_mod_timeField_33 : cf_D k_mod_timeField 33 (.iaload) 1 34 := ⟨by decide +kernel, rfl⟩
theorem d_mod_timeField_34 : cf_D k_mod_timeField 34 (.bipush 10) 2 36 := ⟨by decide +kernel, rfl⟩
theorem d_mod_timeField_36 : cf_D k_mod_timeField 36 (.invokevirtual 91) 3 39 := ⟨by decide +kernel, rfl⟩
theorem d_mod_timeField_39 : cf_D k_mod_timeField 39 (.ifCond .le 7) 3 42 := ⟨by decide +kernel, rfl⟩
theorem d_mod_timeField_42 : cf_D k_mod_timeField 42 (.iconst 1) 1 43 := ⟨by decide +kernel, rfl⟩
theorem d_mod_timeField_43 : cf_D k_mod_timeField 43 (.goto 4) 3 46 := ⟨by decide +kernel, rfl⟩
theorem d_mod_timeField_46 : cf_D k_mod_timeField 46 (.iconst 0) 1 47 := ⟨by decide +kernel, rfl⟩
theorem d_mod_timeField_47 : cf_D k_mod_timeField 47 (.istore 9) 2 49 := ⟨by decide +kernel, rfl⟩
theorem d_mod_timeField_49 : cf_D k_mod_timeField 49 (.aload_n 0) 1 50 := ⟨by decide +kernel, rfl⟩
theorem d_mod_timeField_50 : cf_D k_mod_timeField 50 (.getfield 16) 3 53 := ⟨by decide +kernel, rfl⟩
theorem d_mod_timeField_53 : cf_D k_mod_timeField 53 (.iload_n 2) 1 54 := ⟨by decide +kernel, rfl⟩
theorem d_mod_timeField_54 : cf_D k_mod_timeField 54 (.iaload) 1 55 := ⟨by decide +kernel, rfl⟩
theorem d_mod_timeField_55 : cf_D k_mod_timeField 55 (.bipush 10) 2 57 := ⟨by decide +kernel, rfl⟩
theorem d_mod_timeField_57 : cf_D k_mod_timeField 57 (.if_icmp .ne 30) 3 60 := ⟨by decide +kernel, rfl⟩
theorem d_mod_timeField_60 : cf_D k_mod_timeField 60 (.aload_n 0) 1 61 := ⟨by decide +kernel, rfl⟩
theorem d_mod_timeField_61 : cf_D k_mod_timeField 61 (.iload 6) 2 63 := ⟨by decide +kernel, rfl⟩
theorem d_mod_timeField_63 : cf_D k_mod_timeField 63 (.bipush 12) 2 65 := ⟨by decide +kernel, rfl⟩
theorem d_mod_timeField_65 : cf_D k_mod_timeField 65 (.if_icmp .ge 8) 3 68 := ⟨by decide +kernel, rfl⟩
theorem d_mod_timeField_68 : cf_D k_mod_timeField 68 (.bipush 65) 2 70 := ⟨by decide +kernel, rfl⟩
theorem d_mod_timeField_70 : cf_D k_mod_timeField 70 (.goto 5) 3 73 := ⟨by decide +kernel, rfl⟩
theorem d_mod_timeField_73 : cf_D k_mod_timeField 73 (.bipush 80) 2 75 := ⟨by decide +kernel, rfl⟩
theorem d_mod_timeField_75 : cf_D k_mod_timeField 75 (.invokevirtual 132) 3 78 := ⟨by decide +kernel, rfl⟩
theorem d_mod_timeField_78 : cf_D k_mod_timeField 78 (.aload_n 0) 1 79 := ⟨by decide +kernel, rfl⟩
theorem d_mod_timeField_79 : cf_D k_mod_timeField 79 (.bipush 77) 2 81 := ⟨by decide +kernel, rfl⟩
theorem d_mod_timeField_81 : cf_D k_mod_timeField 81 (.invokevirtual 132) 3 84 := ⟨by decide +kernel, rfl⟩
theorem d_mod_timeField_84 : cf_D k_mod_timeField 84 (.goto 160) 3 87 := ⟨by decide +kernel, rfl⟩
theorem d_mod_timeField_87 : cf_D k_mod_timeField 87 (.aload_n 0) 1 88 := ⟨by decide +kernel, rfl⟩
theorem d_mod_timeField_88 : cf_D k_mod_timeField 88 (.getfield 16) 3 91 := ⟨by decide +kernel, rfl⟩
theorem d_mod_timeField_91 : cf_D k_mod_timeField 91 (.iload_n 2) 1 92 := ⟨by decide +kernel, rfl⟩
theorem d_mod_timeField_92 : cf_D k_mod_timeField 92 (.iaload) 1 93 := ⟨by decide +kernel, rfl⟩
theorem d_mod_timeField_93 : cf_D k_mod_timeField 93 (.bipush 8) 2 95 := ⟨by decide +kernel, rfl⟩
theorem d_mod_timeField_95 : cf_D k_mod_timeField 95 (.if_icmp .ne 53) 3 98 := ⟨by decide +kernel, rfl⟩
theorem d_mod_timeField_98 : cf_D k_mod_timeField 98 (.aload_n 0) 1 99 := ⟨by decide +kernel, rfl⟩
theorem d_mod_timeField_99 : cf_D k_mod_timeField 99 (.aload_n 0) 1 100 := ⟨by decide +kernel, rfl⟩
theorem d_mod_timeField_100 : cf_D k_mod_timeField 100 (.getfield 19) 3 103 := ⟨by decide +kernel, rfl⟩
theorem d_mod_timeField_103 : cf_D k_mod_timeField 103 (.iload_n 2) 1 104 := ⟨by decide +kernel, rfl⟩
theorem d_mod_timeField_104 : cf_D k_mod_timeField 104 (.iaload) 1 105 := ⟨by decide +kernel, rfl⟩
theorem d_mod_timeField_105 : cf_D k_mod_timeField 105 (.bipush 104) 2 107 := ⟨by decide +kernel, rfl⟩
theorem d_mod_timeField_107 : cf_D k_mod_timeField 107 (.if_icmp .ne 12) 3 110 := ⟨by decide +kernel, rfl⟩
theorem d_mod_timeField_110 : cf_D k_mod_timeField 110 (.lload 7) 2 112 := ⟨by decide +kernel, rfl⟩
theorem d_mod_timeField_112 : cf_D k_mod_timeField 112 (.ldc2_w 226) 3 115 := ⟨by decide +kernel, rfl⟩
theorem d_mod_timeField_115 : cf_D k_mod_timeField 115 (.ldiv) 1 116 := ⟨by decide +kernel, rfl⟩
theorem d_mod_timeField_116 : cf_D k_mod_timeField 116 (.goto 25) 3 119 := ⟨by decide +kernel, rfl⟩
theorem d_mod_timeField_119 : cf_D k_mod_timeField 119 (.aload_n 0) 1 120 := ⟨by decide +kernel, rfl⟩
theorem d_mod_timeField_120 : cf_D k_mod_timeField 120 (.getfield 19) 3 123 := ⟨by decide +kernel, rfl⟩
theorem d_mod_timeField_123 : cf_D k_mod_timeField 123 (.iload_n 2) 1 124 := ⟨by decide +kernel, rfl⟩
theorem d_mod_timeField_124 : cf_D k_mod_timeField 124 (.iaload) 1 125 := ⟨by decide +kernel, rfl⟩
theorem d_mod_timeField_125 : cf_D k_mod_timeField 125 (.bipush 109) 2 127 := ⟨by decide +kernel, rfl⟩
theorem d_mod_timeField_127 : cf_D k_mod_timeField 127 (.if_icmp .ne 12) 3 130 := ⟨by decide +kernel, rfl⟩
theorem d_mod_timeField_130 : cf_D k_mod_timeField 130 (.lload 7) 2 132 := ⟨by decide +kernel, rfl⟩
theorem d_mod_timeField_132 : cf_D k_mod_timeField 132 (.ldc2_w 228) 3 135 := ⟨by decide +kernel, rfl⟩
theorem d_mod_timeField_135 : cf_D k_mod_timeField 135 (.ldiv) 1 136 := ⟨by decide +kernel, rfl⟩
theorem d_mod_timeField_136 : cf_D k_mod_timeField 136 (.goto 5) 3 139 := ⟨by decide +kernel, rfl⟩
theorem d_mod_timeField_139 : cf_D k_mod_timeField 139 (.lload 7) 2 141 := ⟨by decide +kernel, rfl⟩
theorem d_mod_timeField_141 : cf_D k_mod_timeField 141 (.iconst 1) 1 142 := ⟨by decide +kernel, rfl⟩
theorem d_mod_timeField_142 : cf_D k_mod_timeField 142 (.invokevirtual 172) 3 145 := ⟨by decide +kernel, rfl⟩
theorem d_mod_timeField_145 : cf_D k_mod_timeField 145 (.goto 99) 3 148 := ⟨by decide +kernel, rfl⟩
theorem d_mod_timeField_148 : cf_D k_mod_timeField 148 (.aload_n 0) 1 149 := ⟨by decide +kernel, rfl⟩
theorem d_mod_timeField_149 : cf_D k_mod_timeField 149 (.getfield 19) 3 152 := ⟨by decide +kernel, rfl⟩
theorem d_mod_timeField_152 : cf_D k_mod_timeField 152 (.iload_n 2) 1 153 := ⟨by decide +kernel, rfl⟩
theorem d_mod_timeField_153 : cf_D k_mod_timeField 153 (.iaload) 1 154 := ⟨by decide +kernel, rfl⟩
theorem d_mod_timeField_154 : cf_D k_mod_timeField 154 (.bipush 104) 2 156 := ⟨by decide +kernel, rfl⟩
theorem d_mod_timeField_156 : cf_D k_mod_timeField 156 (.if_icmp .ne 49) 3 159 := ⟨by decide +kernel, rfl⟩
theorem d_mod_timeField_159 : cf_D k_mod_timeField 159 (.iload 9) 2 161 := ⟨by decide +kernel, rfl⟩
theorem d_mod_timeField_161 : cf_D k_mod_timeField 161 (.ifCond .ne 8) 3 164 := ⟨by decide +kernel, rfl⟩
theorem d_mod_timeField_164 : cf_D k_mod_timeField 164 (.iload 6) 2 166 := ⟨by decide +kernel, rfl⟩
theorem d_mod_timeField_166 : cf_D k_mod_timeField 166 (.goto 21) 3 169 := ⟨by decide +kernel, rfl⟩
theorem d_mod_timeField_169 : cf_D k_mod_timeField 169 (.iload 6) 2 171 := ⟨by decide +kernel, rfl⟩
theorem d_mod_timeField_171 : cf_D k_mod_timeField 171 (.bipush 12) 2 173 := ⟨by decide +kernel, rfl⟩
theorem d_mod_timeField_173 : cf_D k_mod_timeField 173 (.irem) 1 174 := ⟨by decide +kernel, rfl⟩
theorem d_mod_timeField_174 : cf_D k_mod_timeField 174 (.ifCond .ne 8) 3 177 := ⟨by decide +kernel, rfl⟩
theorem d_mod_timeField_177 : cf_D k_mod_timeField 177 (.bipush 12) 2 179 := ⟨by decide +kernel, rfl⟩
theorem d_mod_timeField_179 : cf_D k_mod_timeField 179 (.goto 8) 3 182 := ⟨by decide +kernel, rfl⟩
theorem d_mod_timeField_182 : cf_D k_mod_timeField 182 (.iload 6) 2 184 := ⟨by decide +kernel, rfl⟩
theorem d_mod_timeField_184 : cf_D k_mod_timeField 184 (.bipush 12) 2 186 := ⟨by decide +kernel, rfl⟩
theorem d_mod_timeField_186 : cf_D k_mod_timeField 186 (.irem) 1 187 := ⟨by decide +kernel, rfl⟩
theorem d_mod_timeField_187 : cf_D k_mod_timeField 187 (.istore 10) 2 189 := ⟨by decide +kernel, rfl⟩
theorem d_mod_timeField_189 : cf_D k_mod_timeField 189 (.aload_n 0) 1 190 := ⟨by decide +kernel, rfl⟩
theorem d_mod_timeField_190 : cf_D k_mod_timeField 190 (.iload 10) 2 192 := ⟨by decide +kernel, rfl⟩
theorem d_mod_timeField_192 : cf_D k_mod_timeField 192 (.i2l) 1 193 := ⟨by decide +kernel, rfl⟩
theorem d_mod_timeField_193 : cf_D k_mod_timeField 193 (.aload_n 0) 1 194 := ⟨by decide +kernel, rfl⟩
theorem d_mod_timeField_194 : cf_D k_mod_timeField 194 (.getfield 22) 3 197 := ⟨by decide +kernel, rfl⟩
theorem d_mod_timeField_197 : cf_D k_mod_timeField 197 (.iload_n 2) 1 198 := ⟨by decide +kernel, rfl⟩
theorem d_mod_timeField_198 : cf_D k_mod_timeField 198 (.iaload) 1 199 := ⟨by decide +kernel, rfl⟩
theorem d_mod_timeField_199 : cf_D k_mod_timeField 199 (.invokevirtual 172) 3 202 := ⟨by decide +kernel, rfl⟩
theorem d_mod_timeField_202 : cf_D k_mod_timeField 202 (.goto 42) 3 205 := ⟨by decide +kernel, rfl⟩
theorem d_mod_timeField_205 : cf_D k_mod_timeField 205 (.aload_n 0) 1 206 := ⟨by decide +kernel, rfl⟩
theorem d_mod_timeField_206 : cf_D k_mod_timeField 206 (.aload_n 0) 1 207 := ⟨by decide +kernel, rfl⟩
theorem d_mod_timeField_207 : cf_D k_mod_timeField 207 (.getfield 19) 3 210 := ⟨by decide +kernel, rfl⟩
theorem d_mod_timeField_210 : cf_D k_mod_timeField 210 (.iload_n 2) 1 211 := ⟨by decide +kernel, rfl⟩
theorem d_mod_timeField_211 : cf_D k_mod_timeField 211 (.iaload) 1 212 := ⟨by decide +kernel, rfl⟩
theorem d_mod_timeField_212 : cf_D k_mod_timeField 212 (.bipush 115) 2 214 := ⟨by decide +kernel, rfl⟩
theorem d_mod_timeField_214 : cf_D k_mod_timeField 214 (.if_icmp .ne 12) 3 217 := ⟨by decide +kernel, rfl⟩
theorem d_mod_timeField_217 : cf_D k_mod_timeField 217 (.iload 5) 2 219 := ⟨by decide +kernel, rfl⟩
theorem d_mod_timeField_219 : cf_D k_mod_timeField 219 (.bipush 60) 2 221 := ⟨by decide +kernel, rfl⟩
theorem d_mod_timeField_221 : cf_D k_mod_timeField 221 (.irem) 1 222 := ⟨by decide +kernel, rfl⟩
theorem d_mod_timeField_222 : cf_D k_mod_timeField 222 (.i2l) 1 223 := ⟨by decide +kernel, rfl⟩
theorem d_mod_timeField_223 : cf_D k_mod_timeField 223 (.goto 12) 3 226 := ⟨by decide +kernel, rfl⟩
theorem d_mod_timeField_226 : cf_D k_mod_timeField 226 (.iload 5) 2 228 := ⟨by decide +kernel, rfl⟩
theorem d_mod_timeField_228 : cf_D k_mod_timeField 228 (.bipush 60) 2 230 := ⟨by decide +kernel, rfl⟩
theorem d_mod_timeField_230 : cf_D k_mod_timeField 230 (.idiv) 1 231 := ⟨by decide +kernel, rfl⟩
theorem d_mod_timeField_231 : cf_D k_mod_timeField 231 (.bipush 60) 2 233 := ⟨by decide +kernel, rfl⟩
theorem d_mod_timeField_233 : cf_D k_mod_timeField 233 (.irem) 1 234 := ⟨by decide +kernel, rfl⟩
theorem d_mod_timeField_234 : cf_D k_mod_timeField 234 (.i2l) 1 235 := ⟨by decide +kernel, rfl⟩
theorem d_mod_timeField_235 : cf_D k_mod_timeField 235 (.aload_n 0) 1 236 := ⟨by decide +kernel, rfl⟩
theorem d_mod_timeField_236 : cf_D k_mod_timeField 236 (.getfield 22) 3 239 := ⟨by decide +kernel, rfl⟩
theorem d_mod_timeField_239 : cf_D k_mod_timeField 239 (.iload_n 2) 1 240 := ⟨by decide +kernel, rfl⟩
theorem d_mod_timeField_240 : cf_D k_mod_timeField 240 (.iaload) 1 241 := ⟨by decide +kernel, rfl⟩
theorem d_mod_timeField_241 : cf_D k_mod_timeField 241 (.invokevirtual 172) 3 244 := ⟨by decide +kernel, rfl⟩
theorem d_mod_timeField_244 : cf_D k_mod_timeField 244 (.return_) 1 245 := ⟨by decide +kernel, rfl⟩
theorem d_mod_plain_0 : cf_D k_mod_plain 0 (.aload_n 0) 1 1 := ⟨by decide +kernel, rfl⟩
theorem d_mod_plain_1 : cf_D k_mod_plain 1 (.getfield 25) 3 4 := ⟨by decide +kernel, rfl⟩
theorem d_mod_plain_4 : cf_D k_mod_plain 4 (.iload_n 1) 1 5 := ⟨by decide +kernel, rfl⟩
theorem d_mod_plain_5 : cf_D k_mod_plain 5 (.iaload) 1 6 := ⟨by decide +kernel, rfl⟩
theorem d_mod_plain_6 : cf_D k_mod_plain 6 (.istore_n 2) 1 7 := ⟨by decide +kernel, rfl⟩
theorem d_mod_plain_7 : cf_D k_mod_plain 7 (.iload_n 2) 1 8 := ⟨by decide +kernel, rfl⟩
theorem d_mod_plain_8 : cf_D k_mod_plain 8 (.aload_n 0) 1 9 := ⟨by decide +kernel, rfl⟩
theorem d_mod_plain_9 : cf_D k_mod_plain 9 (.getfield 25) 3 12 := ⟨by decide +kernel, rfl⟩
theorem d_mod_plain_12 : cf_D k_mod_plain 12 (.iload_n 1) 1 13 := ⟨by decide +kernel, rfl⟩
theorem d_mod_plain_13 : cf_D k_mod_plain 13 (.iconst 1) 1 14 := ⟨by decide +kernel, rfl⟩
theorem d_mod_plain_14 : cf_D k_mod_plain 14 (.iadd) 1 15 := ⟨by decide +kernel, rfl⟩
theorem d_mod_plain_15 : cf_D k_mod_plain 15 (.iaload) 1 16 := ⟨by decide +kernel, rfl⟩
theorem d_mod_plain_16 : cf_D k_mod_plain 16 (.if_icmp .ge 24) 3 19 := ⟨by decide +kernel, rfl⟩
theorem d_mod_plain_19 : cf_D k_mod_plain 19 (.aload_n 0) 1 20 := ⟨by decide +kernel, rfl⟩
theorem d_mod_plain_20 : cf_D k_mod_plain 20 (.getfield 16) 3 23 := ⟨by decide +kernel, rfl⟩
theorem d_mod_plain_23 : cf_D k_mod_plain 23 (.iload_n 2) 1 24 := ⟨by decide +kernel, rfl⟩
theorem d_mod_plain_24 : cf_D k_mod_plain 24 (.iaload) 1 25 := ⟨by decide +kernel, rfl⟩
theorem d_mod_plain_25 : cf_D k_mod_plain 25 (.iconst 1) 1 26 := ⟨by decide +kernel, rfl⟩
theorem d_mod_plain_26 : cf_D k_mod_plain 26 (.if_icmp .ne 8) 3 29 := ⟨by decide +kernel, rfl⟩
theorem d_mod_plain_29 : cf_D k_mod_plain 29 (.aload_n 0) 1 30 := ⟨by decide +kernel, rfl⟩
theorem d_mod_plain_30 : cf_D k_mod_plain 30 (.iload_n 2) 1 31 := ⟨by decide +kernel, rfl⟩
theorem d_mod_plain_31 : cf_D k_mod_plain 31 (.invokevirtual 139) 3 34 := ⟨by decide +kernel, rfl⟩
theorem d_mod_plain_34 : cf_D k_mod_plain 34 (.iinc 2 1) 3 37 := ⟨by decide +kernel, rfl⟩
theorem d_mod_plain_37 : cf_D k_mod_plain 37 (.goto (-30)) 3 40 := ⟨by decide +kernel, rfl⟩
theorem d_mod_plain_40 : cf_D k_mod_plain 40 (.return_) 1 41 := ⟨by decide +kernel, rfl⟩
theorem d_mod_reckon_0 : cf_D k_mod_reckon 0 (.aload_n 0) 1 1 := ⟨by decide +kernel, rfl⟩
theorem d_mod_reckon_1 : cf_D k_mod_reckon 1 (.getfield 25) 3 4 := ⟨by decide +kernel, rfl⟩
theorem d_mod_reckon_4 : cf_D k_mod_reckon 4 (.iload_n 1) 1 5 := ⟨by decide +kernel, rfl⟩
theorem d_mod_reckon_5 : cf_D k_mod_reckon 5 (.iaload) 1 6 := ⟨by decide +kernel, rfl⟩
theorem d_mod_reckon_6 : cf_D k_mod_reckon 6 (.istore 4) 2 8 := ⟨by decide +kernel, rfl⟩
theorem d_mod_reckon_8 : cf_D k_mod_reckon 8 (.aload_n 0) 1 9 := ⟨by decide +kernel, rfl⟩
theorem d_mod_reckon_9 : cf_D k_mod_reckon 9 (.getfield 25) 3 12 := ⟨by decide +kernel, rfl⟩
theorem d_mod_reckon_12 : cf_D k_mod_reckon 12 (.iload_n 1) 1 13 := ⟨by decide +kernel, rfl⟩
theorem d_mod_reckon_13 : cf_D k_mod_reckon 13 (.iconst 1) 1 14 := ⟨by decide +kernel, rfl⟩
theorem d_mod_reckon_14 : cf_D k_mod_reckon 14 (.iadd) 1 15 := ⟨by decide +kernel, rfl⟩
theorem d_mod_reckon_15 : cf_D k_mod_reckon 15 (.iaload) 1 16 := ⟨by decide +kernel, rfl⟩
theorem d_mod_reckon_16 : cf_D k_mod_reckon 16 (.istore 5) 2 18 := ⟨by decide +kernel, rfl⟩
theorem d_mod_reckon_18 : cf_D k_mod_reckon 18 (.bipush (-6)) 2 20 := ⟨by decide +kernel, rfl⟩
theorem d_mod_reckon_20 : cf_D k_mod_reckon 20 (.iconst 2) 1 21 := ⟨by decide +kernel, rfl⟩
theorem d_mod_reckon_21 : cf_D k_mod_reckon 21 (.aload_n 0) 1 22 := ⟨by decide +kernel, rfl⟩
theorem d_mod_reckon_22 : cf_D k_mod_reckon 22 (.iload 4) 2 24 := ⟨by decide +kernel, rfl⟩
theorem d_mod_reckon_24 : cf_D k_mod_reckon 24 (.iload 5) 2 26 := ⟨by decide +kernel, rfl⟩
theorem d_mod_reckon_26 : cf_D k_mod_reckon 26 (.iconst 5) 1 27 := ⟨by decide +kernel, rfl⟩
theorem d_mod_reckon_27 : cf_D k_mod_reckon 27 (.invokevirtual 91) 3 30 := ⟨by decide +kernel, rfl⟩
theorem d_mod_reckon_30 : cf_D k_mod_reckon 30 (.imul) 1 31 := ⟨by decide +kernel, rfl⟩
theorem d_mod_reckon_31 : cf_D k_mod_reckon 31 (.iadd) 1 32 := ⟨by decide +kernel, rfl⟩
theorem d_mod_reckon_32 : cf_D k_mod_reckon 32 (.istore 6) 2 34 := ⟨by decide +kernel, rfl⟩
theorem d_mod_reckon_34 : cf_D k_mod_reckon 34 (.iload 4) 2 36 := ⟨by decide +kernel, rfl⟩
theorem d_mod_reckon_36 : cf_D k_mod_reckon 36 (.istore 7) 2 38 := ⟨by decide +kernel, rfl⟩
theorem d_mod_reckon_38 : cf_D k_mod_reckon 38 (.iload 7) 2 40 := ⟨by decide +kernel, rfl⟩
theorem d_mod_reckon_40 : cf_D k_mod_reckon 40 (.iload 5) 2 42 := ⟨by decide +kernel, rfl⟩
theorem d_mod_reckon_42 : cf_D k_mod_reckon 42 (.if_icmp .ge 40) 3 45 := ⟨by decide +kernel, rfl⟩
theorem d_mod_reckon_45 : cf_D k_mod_reckon 45 (.iload 6) 2 47 := ⟨by decide +kernel, rfl⟩
theorem d_mod_reckon_47 : cf_D k_mod_reckon 47 (.aload_n 0) 1 48 := ⟨by decide +kernel, rfl⟩
theorem d_mod_reckon_48 : cf_D k_mod_reckon 48 (.getfield 16) 3 51 := ⟨by decide +kernel, rfl⟩
theorem d_mod_reckon_51 : cf_D k_mod_reckon 51 (.iload 7) 2 53 := ⟨by decide +kernel, rfl⟩
theorem d_mod_reckon_53 : cf_D k_mod_reckon 53 (.iaload) 1 54 := ⟨by decide +kernel, rfl⟩
theorem d_mod_reckon_54 : cf_D k_mod_reckon 54 (.iconst 4) 1 55 := ⟨by decide +kernel, rfl⟩
theorem d_mod_reckon_55 : cf_D k_mod_reckon 55 (.if_icmp .ne 17) 3 58 := ⟨by decide +kernel, rfl⟩
theorem d_mod_reckon_58 : cf_D k_mod_reckon 58 (.aload_n 0) 1 59 := ⟨by decide +kernel, rfl⟩
theorem d_mod_reckon_59 : cf_D k_mod_reckon 59 (.iload_n 1) 1 60 := ⟨by decide +kernel, rfl⟩
theorem d_mod_reckon_60 : cf_D k_mod_reckon 60 (.iload 7) 2 62 := ⟨by decide +kernel, rfl⟩
theorem d_mod_reckon_62 : cf_D k_mod_reckon 62 (.invokevirtual 109) 3 65 := ⟨by decide +kernel, rfl⟩
theorem d_mod_reckon_65 : cf_D k_mod_reckon 65 (.ifCond .eq 7) 3 68 := ⟨by decide +kernel, rfl⟩
theorem d_mod_reckon_68 : cf_D k_mod_reckon 68 (.iconst 3) 1 69 := ⟨by decide +kernel, rfl⟩
theorem d_mod_reckon_69 : cf_D k_mod_reckon 69 (.goto 4) 3 72 := ⟨by decide +kernel, rfl⟩
theorem d_mod_reckon_72 : cf_D k_mod_reckon 72 (.iconst 0) 1 73 := ⟨by decide +kernel, rfl⟩
theorem d_mod_reckon_73 : cf_D k_mod_reckon 73 (.isub) 1 74 := ⟨by decide +kernel, rfl⟩
theorem d_mod_reckon_74 : cf_D k_mod_reckon 74 (.istore 6) 2 76 := ⟨by decide +kernel, rfl⟩
theorem d_mod_reckon_76 : cf_D k_mod_reckon 76 (.iinc 7 1) 3 79 := ⟨by decide +kernel, rfl⟩
theorem d_mod_reckon_79 : cf_D k_mod_reckon 79 (.goto (-41)) 3 82 := ⟨by decide +kernel, rfl⟩
theorem d_mod_reckon_82 : cf_D k_mod_reckon 82 (.aload_n 0) 1 83 := ⟨by decide +kernel, rfl⟩
theorem d_mod_reckon_83 : cf_D k_mod_reckon 83 (.iload_n 1) 1 84 := ⟨by decide +kernel, rfl⟩
theorem d_mod_reckon_84 : cf_D k_mod_reckon 84 (.bipush 6) 2 86 := ⟨by decide +kernel, rfl⟩
theorem d_mod_reckon_86 : cf_D k_mod_reckon 86 (.invokevirtual 95) 3 89 := ⟨by decide +kernel, rfl⟩
theorem d_mod_reckon_89 : cf_D k_mod_reckon 89 (.istore 7) 2 91 := ⟨by decide +kernel, rfl⟩
theorem d_mod_reckon_91 : cf_D k_mod_reckon 91 (.aload_n 0) 1 92 := ⟨by decide +kernel, rfl⟩
theorem d_mod_reckon_92 : cf_D k_mod_reckon 92 (.iload_n 1) 1 93 := ⟨by decide +kernel, rfl⟩
theorem d_mod_reckon_93 : cf_D k_mod_reckon 93 (.iconst 3) 1 94 := ⟨by decide +kernel, rfl⟩
theorem d_mod_reckon_94 : cf_D k_mod_reckon 94 (.invokevirtual 95) 3 97 := ⟨by decide +kernel, rfl⟩
theorem d_mod_reckon_97 : cf_D k_mod_reckon 97 (.istore 8) 2 99 := ⟨by decide +kernel, rfl⟩
theorem d_mod_reckon_99 : cf_D k_mod_reckon 99 (.iload 8) 2 101 := ⟨by decide +kernel, rfl⟩
theorem d_mod_reckon_101 : cf_D k_mod_reckon 101 (.iload 7) 2 103 := ⟨by decide +kernel, rfl⟩
theorem d_mod_reckon_103 : cf_D k_mod_reckon 103 (.if_icmp .ge 15) 3 106 := ⟨by decide +kernel, rfl⟩
theorem d_mod_reckon_106 : cf_D k_mod_reckon 106 (.aload_n 0) 1 107 := ⟨by decide +kernel, rfl⟩
theorem d_mod_reckon_107 : cf_D k_mod_reckon 107 (.iload 8) 2 109 := ⟨by decide +kernel, rfl⟩
theorem d_mod_reckon_109 : cf_D k_mod_reckon 109 (.iload 7) 2 111 := ⟨by decide +kernel, rfl⟩
theorem d_mod_reckon_111 : cf_D k_mod_reckon 111 (.iconst 2) 1 112 := ⟨by decide +kernel, rfl⟩
theorem d_mod_reckon_112 : cf_D k_mod_reckon 112 (.invokevirtual 91) 3 115 := ⟨by decide +kernel, rfl⟩
theorem d_mod_reckon_115 : cf_D k_mod_reckon 115 (.goto 4) 3 118 := ⟨by decide +kernel, rfl⟩
theorem d_mod_reckon_118 : cf_D k_mod_reckon 118 (.iconst 0) 1 119 := ⟨by decide +kernel, rfl⟩
theorem d_mod_reckon_119 : cf_D k_mod_reckon 119 (.istore 9) 2 121 := ⟨by decide +kernel, rfl⟩
theorem d_mod_reckon_121 : cf_D k_mod_reckon 121 (.aload_n 0) 1 122 := ⟨by decide +kernel, rfl⟩
theorem d_mod_reckon_122 : cf_D k_mod_reckon 122 (.iconst 0) 1 123 := ⟨by decide +kernel, rfl⟩
theorem d_mod_reckon_123 : cf_D k_mod_reckon 123 (.putfield 158) 3 126 := ⟨by decide +kernel, rfl⟩
theorem d_mod_reckon_126 : cf_D k_mod_reckon 126 (.iload 7) 2 128 := ⟨by decide +kernel, rfl⟩
theorem d_mod_reckon_128 : cf_D k_mod_reckon 128 (.iload 5) 2 130 := ⟨by decide +kernel, rfl⟩
theorem d_mod_reckon_130 : cf_D k_mod_reckon 130 (.if_icmp .eq 9) 3 133 := ⟨by decide +kernel, rfl⟩
theorem d_mod_reckon_133 : cf_D k_mod_reckon 133 (.lload_n 2) 1 134 := ⟨by decide +kernel, rfl⟩
theorem d_mod_reckon_134 : cf_D k_mod_reckon 134 (.lconst 0) 1 135 := ⟨by decide +kernel, rfl⟩
theorem d_mod_reckon_135 : cf_D k_mod_reckon 135 (.lcmp) 1 136 := ⟨by decide +kernel, rfl⟩
theorem d_mod_reckon_136 : cf_D k_mod_reckon 136 (.ifCond .ne 13) 3 139 := ⟨by decide +kernel, rfl⟩
theorem d_mod_reckon_139 : cf_D k_mod_reckon 139 (.aload_n 0) 1 140 := ⟨by decide +kernel, rfl⟩
theorem d_mod_reckon_140 : cf_D k_mod_reckon 140 (.lload_n 2) 1 141 := ⟨by decide +kernel, rfl⟩
theorem d_mod_reckon_141 : cf_D k_mod_reckon 141 (.iload 6) 2 143 := ⟨by decide +kernel, rfl⟩
theorem d_mod_reckon_143 : cf_D k_mod_reckon 143 (.iload 9) 2 145 := ⟨by decide +kernel, rfl⟩
theorem d_mod_reckon_145 : cf_D k_mod_reckon 145 (.invokevirtual 161) 3 148 := ⟨by decide +kernel, rfl⟩
theorem d_mod_reckon_148 : cf_D k_mod_reckon 148 (.return_) 1 149 := ⟨by decide +kernel, rfl⟩
theorem d_mod_reckon_149 : cf_D k_mod_reckon 149 (.aload_n 0) 1 150 := ⟨by decide +kernel, rfl⟩
theorem d_mod_reckon_150 : cf_D k_mod_reckon 150 (.iload 4) 2 152 := ⟨by decide +kernel, rfl⟩
theorem d_mod_reckon_152 : cf_D k_mod_reckon 152 (.aload_n 0) 1 153 := ⟨by decide +kernel, rfl⟩
theorem d_mod_reckon_153 : cf_D k_mod_reckon 153 (.iload_n 1) 1 154 := ⟨by decide +kernel, rfl⟩
theorem d_mod_reckon_154 : cf_D k_mod_reckon 154 (.invokevirtual 99) 3 157 := ⟨by decide +kernel, rfl⟩
theorem d_mod_reckon_157 : cf_D k_mod_reckon 157 (.iconst 2) 1 158 := ⟨by decide +kernel, rfl⟩
theorem d_mod_reckon_158 : cf_D k_mod_reckon 158 (.invokevirtual 91) 3 161 := ⟨by decide +kernel, rfl⟩
theorem d_mod_reckon_161 : cf_D k_mod_reckon 161 (.istore 10) 2 163 := ⟨by decide +kernel, rfl⟩
theorem d_mod_reckon_163 : cf_D k_mod_reckon 163 (.lload_n 2) 1 164 := ⟨by decide +kernel, rfl⟩
theorem d_mod_reckon_164 : cf_D k_mod_reckon 164 (.invokestatic 154) 3 167 := ⟨by decide +kernel, rfl⟩
theorem d_mod_reckon_167 : cf_D k_mod_reckon 167 (.iconst 1) 1 168 := ⟨by decide +kernel, rfl⟩
theorem d_mod_reckon_168 : cf_D k_mod_reckon 168 (.isub) 1 169 := ⟨by decide +kernel, rfl⟩
theorem d_mod_reckon_169 : cf_D k_mod_reckon 169 (.iload 6) 2 171 := ⟨by decide +kernel, rfl⟩
theorem d_mod_reckon_171 : cf_D k_mod_reckon 171 (.iadd) 1 172 := ⟨by decide +kernel, rfl⟩
theorem d_mod_reckon_172 : cf_D k_mod_reckon 172 (.istore 11) 2 174 := ⟨by decide +kernel, rfl⟩
theorem d_mod_reckon_174 : cf_D k_mod_reckon 174 (.aload_n 0) 1 175 := ⟨by decide +kernel, rfl⟩
theorem d_mod_reckon_175 : cf_D k_mod_reckon 175 (.getfield 158) 3 178 := ⟨by decide +kernel, rfl⟩
theorem d_mod_reckon_178 : cf_D k_mod_reckon 178 (.iload 11) 2 180 := ⟨by decide +kernel, rfl⟩
theorem d_mod_reckon_180 : cf_D k_mod_reckon 180 (.if_icmp .le 17) 3 183 := ⟨by decide +kernel, rfl⟩
theorem d_mod_reckon_183 : cf_D k_mod_reckon 183 (.aload_n 0) 1 184 := ⟨by decide +kernel, rfl⟩
theorem d_mod_reckon_184 : cf_D k_mod_reckon 184 (.dup) 1 185 := ⟨by decide +kernel, rfl⟩
theorem d_mod_reckon_185 : cf_D k_mod_reckon 185 (.getfield 158) 3 188 := ⟨by decide +kernel, rfl⟩
theorem d_mod_reckon_188 : cf_D k_mod_reckon 188 (.iload 10) 2 190 := ⟨by decide +kernel, rfl⟩
theorem d_mod_reckon_190 : cf_D k_mod_reckon 190 (.isub) 1 191 := ⟨by decide +kernel, rfl⟩
theorem d_mod_reckon_191 : cf_D k_mod_reckon 191 (.putfield 158) 3 194 := ⟨by decide +kernel, rfl⟩
theorem d_mod_reckon_194 : cf_D k_mod_reckon 194 (.goto (-20)) 3 197 := ⟨by decide +kernel, rfl⟩
theorem d_mod_reckon_197 : cf_D k_mod_reckon 197 (.aload_n 0) 1 198 := ⟨by decide +kernel, rfl⟩
theorem d_mod_reckon_198 : cf_D k_mod_reckon 198 (.getfield 158) 3 201 := ⟨by decide +kernel, rfl⟩
theorem d_mod_reckon_201 : cf_D k_mod_reckon 201 (.iload 10) 2 203 := ⟨by decide +kernel, rfl⟩
theorem d_mod_reckon_203 : cf_D k_mod_reckon 203 (.iadd) 1 204 := ⟨by decide +kernel, rfl⟩
theorem d_mod_reckon_204 : cf_D k_mod_reckon 204 (.iload 11) 2 206 := ⟨by decide +kernel, rfl⟩
theorem d_mod_reckon_206 : cf_D k_mod_reckon 206 (.if_icmp .gt 17) 3 209 := ⟨by decide +kernel, rfl⟩
theorem d_mod_reckon_209 : cf_D k_mod_reckon 209 (.aload_n 0) 1 210 := ⟨by decide +kernel, rfl⟩
theorem d_mod_reckon_210 : cf_D k_mod_reckon 210 (.dup) 1 211 := ⟨by decide +kernel, rfl⟩
theorem d_mod_reckon_211 : cf_D k_mod_reckon 211 (.getfield 158) 3 214 := ⟨by decide +kernel, rfl⟩
theorem d_mod_reckon_214 : cf_D k_mod_reckon 214 (.iload 10) 2 216 := ⟨by decide +kernel, rfl⟩
theorem d_mod_reckon_216 : cf_D k_mod_reckon 216 (.iadd) 1 217 := ⟨by decide +kernel, rfl⟩
theorem d_mod_reckon_217 : cf_D k_mod_reckon 217 (.putfield 158) 3 220 := ⟨by decide +kernel, rfl⟩
theorem d_mod_reckon_220 : cf_D k_mod_reckon 220 (.goto (-23)) 3 223 := ⟨by decide +kernel, rfl⟩
theorem d_mod_reckon_223 : cf_D k_mod_reckon 223 (.aload_n 0) 1 224 := ⟨by decide +kernel, rfl⟩
theorem d_mod_reckon_224 : cf_D k_mod_reckon 224 (.lload_n 2) 1 225 := ⟨by decide +kernel, rfl⟩
theorem d_mod_reckon_225 : cf_D k_mod_reckon 225 (.iload 6) 2 227 := ⟨by decide +kernel, rfl⟩
theorem d_mod_reckon_227 : cf_D k_mod_reckon 227 (.aload_n 0) 1 228 := ⟨by decide +kernel, rfl⟩
theorem d_mod_reckon_228 : cf_D k_mod_reckon 228 (.getfield 158) 3 231 := ⟨by decide +kernel, rfl⟩
theorem d_mod_reckon_231 : cf_D k_mod_reckon 231 (.isub) 1 232 := ⟨by decide +kernel, rfl⟩
theorem d_mod_reckon_232 : cf_D k_mod_reckon 232 (.iload 9) 2 234 := ⟨by decide +kernel, rfl⟩
theorem d_mod_reckon_234 : cf_D k_mod_reckon 234 (.invokevirtual 161) 3 237 := ⟨by decide +kernel, rfl⟩
theorem d_mod_reckon_237 : cf_D k_mod_reckon 237 (.aload_n 0) 1 238 := ⟨by decide +kernel, rfl⟩
theorem d_mod_reckon_238 : cf_D k_mod_reckon 238 (.invokevirtual 165) 3 241 := ⟨by decide +kernel, rfl⟩
theorem d_mod_reckon_241 : cf_D k_mod_reckon 241 (.iload 10) 2 243 := ⟨by decide +kernel, rfl⟩
theorem d_mod_reckon_243 : cf_D k_mod_reckon 243 (.if_icmp .ne 27) 3 246 := ⟨by decide +kernel, rfl⟩
theorem d_mod_reckon_246 : cf_D k_mod_reckon 246 (.aload_n 0) 1 247 := ⟨by decide +kernel, rfl⟩
theorem d_mod_reckon_247 : cf_D k_mod_reckon 247 (.dup) 1 248 := ⟨by decide +kernel, rfl⟩
theorem d_mod_reckon_248 : cf_D k_mod_reckon 248 (.getfield 158) 3 251 := ⟨by decide +kernel, rfl⟩
theorem d_mod_reckon_251 : cf_D k_mod_reckon 251 (.iload 10) 2 253 := ⟨by decide +kernel, rfl⟩
theorem d_mod_reckon_253 : cf_D k_mod_reckon 253 (.iadd) 1 254 := ⟨by decide +kernel, rfl⟩
theorem d_mod_reckon_254 : cf_D k_mod_reckon 254 (.putfield 158) 3 257 := ⟨by decide +kernel, rfl⟩
theorem d_mod_reckon_257 : cf_D k_mod_reckon 257 (.aload_n 0) 1 258 := ⟨by decide +kernel, rfl⟩
theorem d_mod_reckon_258 : cf_D k_mod_reckon 258 (.lconst 1) 1 259 := ⟨by decide +kernel, rfl⟩
theorem d_mod_reckon_259 : cf_D k_mod_reckon 259 (.putfield 148) 3 262 := ⟨by decide +kernel, rfl⟩
theorem d_mod_reckon_262 : cf_D k_mod_reckon 262 (.aload_n 0) 1 263 := ⟨by decide +kernel, rfl⟩
theorem d_mod_reckon_263 : cf_D k_mod_reckon 263 (.aload_n 0) 1 264 := ⟨by decide +kernel, rfl⟩
theorem d_mod_reckon_264 : cf_D k_mod_reckon 264 (.getfield 142) 3 267 := ⟨by decide +kernel, rfl⟩
theorem d_mod_reckon_267 : cf_D k_mod_reckon 267 (.putfield 145) 3 270 := ⟨by decide +kernel, rfl⟩
theorem d_mod_reckon_270 : cf_D k_mod_reckon 270 (.return_) 1 271 := ⟨by decide +kernel, rfl⟩
theorem d_mod_round_0 : cf_D k_mod_round 0 (.aload_n 0) 1 1 := ⟨by decide +kernel, rfl⟩
theorem d_mod_round_1 : cf_D k_mod_round 1 (.iload 4) 2 3 := ⟨by decide +kernel, rfl⟩
theorem d_mod_round_3 : cf_D k_mod_round 3 (.putfield 142) 3 6 := ⟨by decide +kernel, rfl⟩
theorem d_mod_round_6 : cf_D k_mod_round 6 (.iload_n 3) 1 7 := ⟨by decide +kernel, rfl⟩
theorem d_mod_round_7 : cf_D k_mod_round 7 (.ineg) 1 8 := ⟨by decide +kernel, rfl⟩
theorem d_mod_round_8 : cf_D k_mod_round 8 (.iload 4) 2 10 := ⟨by decide +kernel, rfl⟩
theorem d_mod_round_10 : cf_D k_mod_round 10 (.isub) 1 11 := ⟨by decide +kernel, rfl⟩
theorem d_mod_round_11 : cf_D k_mod_round 11 (.istore 5) 2 13 := ⟨by decide +kernel, rfl⟩
theorem d_mod_round_13 : cf_D k_mod_round 13 (.aload_n 0) 1 14 := ⟨by decide +kernel, rfl⟩
theorem d_mod_round_14 : cf_D k_mod_round 14 (.iload 5) 2 16 := ⟨by decide +kernel, rfl⟩
theorem d_mod_round_16 : cf_D k_mod_round 16 (.ifCond .ge 9) 3 19 := ⟨by decide +kernel, rfl⟩
theorem d_mod_round_19 : cf_D k_mod_round 19 (.iload 5) 2 21 := ⟨by decide +kernel, rfl⟩
theorem d_mod_round_21 : cf_D k_mod_round 21 (.ineg) 1 22 := ⟨by decide +kernel, rfl⟩
theorem d_mod_round_22 : cf_D k_mod_round 22 (.goto 4) 3 25 := ⟨by decide +kernel, rfl⟩
theorem d_mod_round_25 : cf_D k_mod_round 25 (.iconst 0) 1 26 := ⟨by decide +kernel, rfl⟩
theorem d_mod_round_26 : cf_D k_mod_round 26 (.putfield 145) 3 29 := ⟨by decide +kernel, rfl⟩
theorem d_mod_round_29 : cf_D k_mod_round 29 (.aload_n 0) 1 30 := ⟨by decide +kernel, rfl⟩
theorem d_mod_round_30 : cf_D k_mod_round 30 (.lload_n 1) 1 31 := ⟨by decide +kernel, rfl⟩
theorem d_mod_round_31 : cf_D k_mod_round 31 (.putfield 148) 3 34 := ⟨by decide +kernel, rfl⟩
theorem d_mod_round_34 : cf_D k_mod_round 34 (.iload 5) 2 36 := ⟨by decide +kernel, rfl⟩
theorem d_mod_round_36 : cf_D k_mod_round 36 (.bipush 17) 2 38 := ⟨by decide +kernel, rfl⟩
theorem d_mod_round_38 : cf_D k_mod_round 38 (.if_icmp .le 8) 3 41 := ⟨by decide +kernel, rfl⟩
theorem d_mod_round_41 : cf_D k_mod_round 41 (.aload_n 0) 1 42 := ⟨by decide +kernel, rfl⟩
theorem d_mod_round_42 : cf_D k_mod_round 42 (.lconst 0) 1 43 := ⟨by decide +kernel, rfl⟩
theorem d_mod_round_43 : cf_D k_mod_round 43 (.putfield 148) 3 46 := ⟨by decide +kernel, rfl⟩
theorem d_mod_round_46 : cf_D k_mod_round 46 (.iload 5) 2 48 := ⟨by decide +kernel, rfl⟩
theorem d_mod_round_48 : cf_D k_mod_round 48 (.ifCond .le 52) 3 51 := ⟨by decide +kernel, rfl⟩
theorem d_mod_round_51 : cf_D k_mod_round 51 (.iload 5) 2 53 := ⟨by decide +kernel, rfl⟩
theorem d_mod_round_53 : cf_D k_mod_round 53 (.bipush 17) 2 55 := ⟨by decide +kernel, rfl⟩
theorem d_mod_round_55 : cf_D k_mod_round 55 (.if_icmp .gt 45) 3 58 := ⟨by decide +kernel, rfl⟩
theorem d_mod_round_58 : cf_D k_mod_round 58 (.lconst 1) 1 59 := ⟨by decide +kernel, rfl⟩
theorem d_mod_round_59 : cf_D k_mod_round 59 (.lstore 6) 2 61 := ⟨by decide +kernel, rfl⟩
theorem d_mod_round_61 : cf_D k_mod_round 61 (.iconst 0) 1 62 := ⟨by decide +kernel, rfl⟩
theorem d_mod_round_62 : cf_D k_mod_round 62 (.istore 8) 2 64 := ⟨by decide +kernel, rfl⟩
theorem d_mod_round_64 : cf_D k_mod_round 64 (.iload 8) 2 66 := ⟨by decide +kernel, rfl⟩
theorem d_mod_round_66 : cf_D k_mod_round 66 (.iload 5) 2 68 := ⟨by decide +kernel, rfl⟩
theorem d_mod_round_68 : cf_D k_mod_round 68 (.if_icmp .ge 17) 3 71 := ⟨by decide +kernel, rfl⟩
theorem d_mod_round_71 : cf_D k_mod_round 71 (.lload 6) 2 73 := ⟨by decide +kernel, rfl⟩
theorem d_mod_round_73 : cf_D k_mod_round 73 (.ldc2_w 135) 3 76 := ⟨by decide +kernel, rfl⟩
theorem d_mod_round_76 : cf_D k_mod_round 76 (.lmul) 1 77 := ⟨by decide +kernel, rfl⟩
theorem d_mod_round_77 : cf_D k_mod_round 77 (.lstore 6) 2 79 := ⟨by decide +kernel, rfl⟩
theorem d_mod_round_79 : cf_D k_mod_round 79 (.iinc 8 1) 3 82 := ⟨by decide +kernel, rfl⟩
theorem d_mod_round_82 : cf_D k_mod_round 82 (.goto (-18)) 3 85 := ⟨by decide +kernel, rfl⟩
theorem d_mod_round_85 : cf_D k_mod_round 85 (.aload_n 0) 1 86 := ⟨by decide +kernel, rfl⟩
theorem d_mod_round_86 : cf_D k_mod_round 86 (.lload_n 1) 1 87 := ⟨by decide +kernel, rfl⟩
theorem d_mod_round_87 : cf_D k_mod_round 87 (.lload 6) 2 89 := ⟨by decide +kernel, rfl⟩
theorem d_mod_round_89 : cf_D k_mod_round 89 (.ldc2_w 152) 3 92 := ⟨by decide +kernel, rfl⟩
theorem d_mod_round_92 : cf_D k_mod_round 92 (.ldiv) 1 93 := ⟨by decide +kernel, rfl⟩
theorem d_mod_round_93 : cf_D k_mod_round 93 (.ladd) 1 94 := ⟨by decide +kernel, rfl⟩
theorem d_mod_round_94 : cf_D k_mod_round 94 (.lload 6) 2 96 := ⟨by decide +kernel, rfl⟩
theorem d_mod_round_96 : cf_D k_mod_round 96 (.ldiv) 1 97 := ⟨by decide +kernel, rfl⟩
theorem d_mod_round_97 : cf_D k_mod_round 97 (.putfield 148) 3 100 := ⟨by decide +kernel, rfl⟩
theorem d_mod_round_100 : cf_D k_mod_round 100 (.return_) 1 101 := ⟨by decide +kernel, rfl⟩
theorem d_mod_lengthOf_0 : cf_D k_mod_lengthOf 0 (.iconst 0) 1 1 := ⟨by decide +kernel, rfl⟩
theorem d_mod_lengthOf_1 : cf_D k_mod_lengthOf 1 (.istore_n 2) 1 2 := ⟨by decide +kernel, rfl⟩
theorem d_mod_lengthOf_2 : cf_D k_mod_lengthOf 2 (.lload_n 0) 1 3 := ⟨by decide +kernel, rfl⟩
theorem d_mod_lengthOf_3 : cf_D k_mod_lengthOf 3 (.lstore_n 3) 1 4 := ⟨by decide +kernel, rfl⟩
theorem d_mod_lengthOf_4 : cf_D k_mod_lengthOf 4 (.lload_n 3) 1 5 := ⟨by decide +kernel, rfl⟩
theorem d_mod_lengthOf_5 : cf_D k_mod_lengthOf 5 (.lconst 0) 1 6 := ⟨by decide +kernel, rfl⟩
theorem d_mod_lengthOf_6 : cf_D k_mod_lengthOf 6 (.lcmp) 1 7 := ⟨by decide +kernel, rfl⟩
theorem d_mod_lengthOf_7 : cf_D k_mod_lengthOf 7 (.ifCond .le 15) 3 10 := ⟨by decide +kernel, rfl⟩
theorem d_mod_lengthOf_10 : cf_D k_mod_lengthOf 10 (.iinc 2 1) 3 13 := ⟨by decide +kernel, rfl⟩
theorem d_mod_lengthOf_13 : cf_D k_mod_lengthOf 13 (.lload_n 3) 1 14 := ⟨by decide +kernel, rfl⟩
theorem d_mod_lengthOf_14 : cf_D k_mod_lengthOf 14 (.ldc2_w 135) 3 17 := ⟨by decide +kernel, rfl⟩
theorem d_mod_lengthOf_17 : cf_D k_mod_lengthOf 17 (.ldiv) 1 18 := ⟨by decide +kernel, rfl⟩
theorem d_mod_lengthOf_18 : cf_D k_mod_lengthOf 18 (.lstore_n 3) 1 19 := ⟨by decide +kernel, rfl⟩
theorem d_mod_lengthOf_19 : cf_D k_mod_lengthOf 19 (.goto (-15)) 3 22 := ⟨by decide +kernel, rfl⟩
theorem d_mod_lengthOf_22 : cf_D k_mod_lengthOf 22 (.iload_n 2) 1 23 := ⟨by decide +kernel, rfl⟩
theorem d_mod_lengthOf_23 : cf_D k_mod_lengthOf 23 (.ireturn) 1 24 := ⟨by decide +kernel, rfl⟩
theorem d_mod_top_0 : cf_D k_mod_top 0 (.aload_n 0) 1 1 := ⟨by decide +kernel, rfl⟩
theorem d_mod_top_1 : cf_D k_mod_top 1 (.getfield 148) 3 4 := ⟨by decide +kernel, rfl⟩
theorem d_mod_top_4 : cf_D k_mod_top 4 (.invokestatic 154) 3 7 := ⟨by decide +kernel, rfl⟩
theorem d_mod_top_7 : cf_D k_mod_top 7 (.iconst 1) 1 8 := ⟨by decide +kernel, rfl⟩
theorem d_mod_top_8 : cf_D k_mod_top 8 (.isub) 1 9 := ⟨by decide +kernel, rfl⟩
theorem d_mod_top_9 : cf_D k_mod_top 9 (.aload_n 0) 1 10 := ⟨by decide +kernel, rfl⟩
theorem d_mod_top_10 : cf_D k_mod_top 10 (.getfield 145) 3 13 := ⟨by decide +kernel, rfl⟩
theorem d_mod_top_13 : cf_D k_mod_top 13 (.iadd) 1 14 := ⟨by decide +kernel, rfl⟩
theorem d_mod_top_14 : cf_D k_mod_top 14 (.aload_n 0) 1 15 := ⟨by decide +kernel, rfl⟩
theorem d_mod_top_15 : cf_D k_mod_top 15 (.getfield 142) 3 18 := ⟨by decide +kernel, rfl⟩
theorem d_mod_top_18 : cf_D k_mod_top 18 (.isub) 1 19 := ⟨by decide +kernel, rfl⟩
theorem d_mod_top_19 : cf_D k_mod_top 19 (.ireturn) 1 20 := ⟨by decide +kernel, rfl⟩
theorem d_mod_number_0 : cf_D k_mod_number 0 (.iconst 0) 1 1 := ⟨by decide +kernel, rfl⟩
theorem d_mod_number_1 : cf_D k_mod_number 1 (.istore_n 2) 1 2 := ⟨by decide +kernel, rfl⟩
theorem d_mod_number_2 : cf_D k_mod_number 2 (.aload_n 0) 1 3 := ⟨by decide +kernel, rfl⟩
theorem d_mod_number_3 : cf_D k_mod_number 3 (.getfield 25) 3 6 := ⟨by decide +kernel, rfl⟩
theorem d_mod_number_6 : cf_D k_mod_number 6 (.iload_n 1) 1 7 := ⟨by decide +kernel, rfl⟩
theorem d_mod_number_7 : cf_D k_mod_number 7 (.iaload) 1 8 := ⟨by decide +kernel, rfl⟩
theorem d_mod_number_8 : cf_D k_mod_number 8 (.istore_n 3) 1 9 := ⟨by decide +kernel, rfl⟩
theorem d_mod_number_9 : cf_D k_mod_number 9 (.iload_n 3) 1 10 := ⟨by decide +kernel, rfl⟩
theorem d_mod_number_10 : cf_D k_mod_number 10 (.aload_n 0) 1 11 := ⟨by decide +kernel, rfl⟩
theorem d_mod_number_11 : cf_D k_mod_number 11 (.getfield 25) 3 14 := ⟨by decide +kernel, rfl⟩
theorem d_mod_number_14 : cf_D k_mod_number 14 (.iload_n 1) 1 15 := ⟨by decide +kernel, rfl⟩
theorem d_mod_number_15 : cf_D k_mod_number 15 (.iconst 1) 1 16 := ⟨by decide +kernel, rfl⟩
theorem d_mod_number_16 : cf_D k_mod_number 16 (.iadd) 1 17 := ⟨by decide +kernel, rfl⟩
theorem d_mod_number_17 : cf_D k_mod_number 17 (.iaload) 1 18 := ⟨by decide +kernel, rfl⟩
theorem d_mod_number_18 : cf_D k_mod_number 18 (.if_icmp .ge 38) 3 21 := ⟨by decide +kernel, rfl⟩
theorem d_mod_number_21 : cf_D k_mod_number 21 (.iload_n 2) 1 22 := ⟨by decide +kernel, rfl⟩
theorem d_mod_number_22 : cf_D k_mod_number 22 (.ifCond .ne 22) 3 25 := ⟨by decide +kernel, rfl⟩
theorem d_mod_number_25 : cf_D k_mod_number 25 (.aload_n 0) 1 26 := ⟨by decide +kernel, rfl⟩
theorem d_mod_number_26 : cf_D k_mod_number 26 (.getfield 16) 3 29 := ⟨by decide +kernel, rfl⟩
theorem d_mod_number_29 : cf_D k_mod_number 29 (.iload_n 3) 1 30 := ⟨by decide +kernel, rfl⟩
theorem d_mod_number_30 : cf_D k_mod_number 30 (.iaload) 1 31 := ⟨by decide +kernel, rfl⟩
theorem d_mod_number_31 : cf_D k_mod_number 31 (.iconst 4) 1 32 := ⟨by decide +kernel, rfl⟩
theorem d_mod_number_32 : cf_D k_mod_number 32 (.if_icmp .ne 16) 3 35 := ⟨by decide +kernel, rfl⟩
theorem d_mod_number_35 : cf_D k_mod_number 35 (.aload_n 0) 1 36 := ⟨by decide +kernel, rfl⟩
theorem d_mod_number_36 : cf_D k_mod_number 36 (.iload_n 1) 1 37 := ⟨by decide +kernel, rfl⟩
theorem d_mod_number_37 : cf_D k_mod_number 37 (.iload_n 3) 1 38 := ⟨by decide +kernel, rfl⟩
theorem d_mod_number_38 : cf_D k_mod_number 38 (.invokevirtual 105) 3 41 := ⟨by decide +kernel, rfl⟩
theorem d_mod_number_41 : cf_D k_mod_number 41 (.ifCond .eq 7) 3 44 := ⟨by decide +kernel, rfl⟩
theorem d_mod_number_44 : cf_D k_mod_number 44 (.iconst 1) 1 45 := ⟨by decide +kernel, rfl⟩
theorem d_mod_number_45 : cf_D k_mod_number 45 (.goto 4) 3 48 := ⟨by decide +kernel, rfl⟩
theorem d_mod_number_48 : cf_D k_mod_number 48 (.iconst 0) 1 49 := ⟨by decide +kernel, rfl⟩
theorem d_mod_number_49 : cf_D k_mod_number 49 (.istore_n 2) 1 50 := ⟨by decide +kernel, rfl⟩
theorem d_mod_number_50 : cf_D k_mod_number 50 (.iinc 3 1) 3 53 := ⟨by decide +kernel, rfl⟩
theorem d_mod_number_53 : cf_D k_mod_number 53 (.goto (-44)) 3 56 := ⟨by decide +kernel, rfl⟩
theorem d_mod_number_56 : cf_D k_mod_number 56 (.aload_n 0) 1 57 := ⟨by decide +kernel, rfl⟩
theorem d_mod_number_57 : cf_D k_mod_number 57 (.getfield 25) 3 60 := ⟨by decide +kernel, rfl⟩
theorem d_mod_number_60 : cf_D k_mod_number 60 (.iload_n 1) 1 61 := ⟨by decide +kernel, rfl⟩
theorem d_mod_number_61 : cf_D k_mod_number 61 (.iaload) 1 62 := ⟨by decide +kernel, rfl⟩
theorem d_mod_number_62 : cf_D k_mod_number 62 (.istore_n 3) 1 63 := ⟨by decide +kernel, rfl⟩
theorem d_mod_number_63 : cf_D k_mod_number 63 (.iload_n 3) 1 64 := ⟨by decide +kernel, rfl⟩
theorem d_mod_number_64 : cf_D k_mod_number 64 (.aload_n 0) 1 65 := ⟨by decide +kernel, rfl⟩
theorem d_mod_number_65 : cf_D k_mod_number 65 (.getfield 25) 3 68 := ⟨by decide +kernel, rfl⟩
theorem d_mod_number_68 : cf_D k_mod_number 68 (.iload_n 1) 1 69 := ⟨by decide +kernel, rfl⟩
theorem d_mod_number_69 : cf_D k_mod_number 69 (.iconst 1) 1 70 := ⟨by decide +kernel, rfl⟩
theorem d_mod_number_70 : cf_D k_mod_number 70 (.iadd) 1 71 := ⟨by decide +kernel, rfl⟩
theorem d_mod_number_71 : cf_D k_mod_number 71 (.iaload) 1 72 := ⟨by decide +kernel, rfl⟩
theorem d_mod_number_72 : cf_D k_mod_number 72 (.if_icmp .ge 123) 3 75 := ⟨by decide +kernel, rfl⟩
theorem d_mod_number_75 : cf_D k_mod_number 75 (.aload_n 0) 1 76 := ⟨by decide +kernel, rfl⟩
theorem d_mod_number_76 : cf_D k_mod_number 76 (.getfield 16) 3 79 := ⟨by decide +kernel, rfl⟩
theorem d_mod_number_79 : cf_D k_mod_number 79 (.iload_n 3) 1 80 := ⟨by decide +kernel, rfl⟩
theorem d_mod_number_80 : cf_D k_mod_number 80 (.iaload) 1 81 := ⟨by decide +kernel, rfl⟩
theorem d_mod_number_81 : cf_D k_mod_number 81 (.iconst 1) 1 82 := ⟨by decide +kernel, rfl⟩
theorem d_mod_number_82 : cf_D k_mod_number 82 (.if_icmp .ne 8) 3 85 := ⟨by decide +kernel, rfl⟩
theorem d_mod_number_85 : cf_D k_mod_number 85 (.aload_n 0) 1 86 := ⟨by decide +kernel, rfl⟩
theorem d_mod_number_86 : cf_D k_mod_number 86 (.iload_n 3) 1 87 := ⟨by decide +kernel, rfl⟩
theorem d_mod_number_87 : cf_D k_mod_number 87 (.invokevirtual 139) 3 90 := ⟨by decide +kernel, rfl⟩
theorem d_mod_number_90 : cf_D k_mod_number 90 (.aload_n 0) 1 91 := ⟨by decide +kernel, rfl⟩
theorem d_mod_number_91 : cf_D k_mod_number 91 (.getfield 16) 3 94 := ⟨by decide +kernel, rfl⟩
theorem d_mod_number_94 : cf_D k_mod_number 94 (.iload_n 3) 1 95 := ⟨by decide +kernel, rfl⟩
theorem d_mod_number_95 : cf_D k_mod_number 95 (.iaload) 1 96 := ⟨by decide +kernel, rfl⟩
theorem d_mod_number_96 : cf_D k_mod_number 96 (.iconst 5) 1 97 := ⟨by decide +kernel, rfl⟩
theorem d_mod_number_97 : cf_D k_mod_number 97 (.if_icmp .ne 9) 3 100 := ⟨by decide +kernel, rfl⟩
theorem d_mod_number_100 : cf_D k_mod_number 100 (.aload_n 0) 1 101 := ⟨by decide +kernel, rfl⟩
theorem d_mod_number_101 : cf_D k_mod_number 101 (.bipush 37) 2 103 := ⟨by decide +kernel, rfl⟩
theorem d_mod_number_103 : cf_D k_mod_number 103 (.invokevirtual 132) 3 106 := ⟨by decide +kernel, rfl⟩
theorem d_mod_number_106 : cf_D k_mod_number 106 (.aload_n 0) 1 107 := ⟨by decide +kernel, rfl⟩
theorem d_mod_number_107 : cf_D k_mod_number 107 (.getfield 16) 3 110 := ⟨by decide +kernel, rfl⟩
theorem d_mod_number_110 : cf_D k_mod_number 110 (.iload_n 3) 1 111 := ⟨by decide +kernel, rfl⟩
theorem d_mod_number_111 : cf_D k_mod_number 111 (.iaload) 1 112 := ⟨by decide +kernel, rfl⟩
theorem d_mod_number_112 : cf_D k_mod_number 112 (.iconst 3) 1 113 := ⟨by decide +kernel, rfl⟩
theorem d_mod_number_113 : cf_D k_mod_number 113 (.if_icmp .ne 9) 3 116 := ⟨by decide +kernel, rfl⟩
theorem d_mod_number_116 : cf_D k_mod_number 116 (.aload_n 0) 1 117 := ⟨by decide +kernel, rfl⟩
theorem d_mod_number_117 : cf_D k_mod_number 117 (.bipush 46) 2 119 := ⟨by decide +kernel, rfl⟩
theorem d_mod_number_119 : cf_D k_mod_number 119 (.invokevirtual 132) 3 122 := ⟨by decide +kernel, rfl⟩
theorem d_mod_number_122 : cf_D k_mod_number 122 (.aload_n 0) 1 123 := ⟨by decide +kernel, rfl⟩
theorem d_mod_number_123 : cf_D k_mod_number 123 (.getfield 16) 3 126 := ⟨by decide +kernel, rfl⟩
theorem d_mod_number_126 : cf_D k_mod_number 126 (.iload_n 3) 1 127 := ⟨by decide +kernel, rfl⟩
theorem d_mod_number_127 : cf_D k_mod_number 127 (.iaload) 1 128 := ⟨by decide +kernel, rfl⟩
theorem d_mod_number_128 : cf_D k_mod_number 128 (.iconst 2) 1 129 := ⟨by decide +kernel, rfl⟩
theorem d_mod_number_129 : cf_D k_mod_number 129 (.if_icmp .ne 10) 3 132 := ⟨by decide +kernel, rfl⟩
theorem d_mod_number_132 : cf_D k_mod_number 132 (.aload_n 0) 1 133 := ⟨by decide +kernel, rfl⟩
theorem d_mod_number_133 : cf_D k_mod_number 133 (.iload_n 1) 1 134 := ⟨by decide +kernel, rfl⟩
theorem d_mod_number_134 : cf_D k_mod_number 134 (.iload_n 3) 1 135 := ⟨by decide +kernel, rfl⟩
theorem d_mod_number_135 : cf_D k_mod_number 135 (.iload_n 2) 1 136 := ⟨by decide +kernel, rfl⟩
theorem d_mod_number_136 : cf_D k_mod_number 136 (.invokevirtual 188) 3 139 := ⟨by decide +kernel, rfl⟩
theorem d_mod_number_139 : cf_D k_mod_number 139 (.aload_n 0) 1 140 := ⟨by decide +kernel, rfl⟩
theorem d_mod_number_140 : cf_D k_mod_number 140 (.getfield 16) 3 143 := ⟨by decide +kernel, rfl⟩
theorem d_mod_number_143 : cf_D k_mod_number 143 (.iload_n 3) 1 144 := ⟨by decide +kernel, rfl⟩
theorem d_mod_number_144 : cf_D k_mod_number 144 (.iaload) 1 145 := ⟨by decide +kernel, rfl⟩
theorem d_mod_number_145 : cf_D k_mod_number 145 (.bipush 6) 2 147 := ⟨by decide +kernel, rfl⟩
theorem d_mod_number_147 : cf_D k_mod_number 147 (.if_icmp .ne 42) 3 150 := ⟨by decide +kernel, rfl⟩
theorem d_mod_number_150 : cf_D k_mod_number 150 (.aload_n 0) 1 151 := ⟨by decide +kernel, rfl⟩
theorem d_mod_number_151 : cf_D k_mod_number 151 (.bipush 69) 2 153 := ⟨by decide +kernel, rfl⟩
theorem d_mod_number_153 : cf_D k_mod_number 153 (.invokevirtual 132) 3 156 := ⟨by decide +kernel, rfl⟩
theorem d_mod_number_156 : cf_D k_mod_number 156 (.aload_n 0) 1 157 := ⟨by decide +kernel, rfl⟩
theorem d_mod_number_157 : cf_D k_mod_number 157 (.getfield 158) 3 160 := ⟨by decide +kernel, rfl⟩
theorem d_mod_number_160 : cf_D k_mod_number 160 (.ifCond .ge 12) 3 163 := ⟨by decide +kernel, rfl⟩
theorem d_mod_number_163 : cf_D k_mod_number 163 (.aload_n 0) 1 164 := ⟨by decide +kernel, rfl⟩
theorem d_mod_number_164 : cf_D k_mod_number 164 (.bipush 45) 2 166 := ⟨by decide +kernel, rfl⟩
theorem d_mod_number_166 : cf_D k_mod_number 166 (.invokevirtual 132) 3 169 := ⟨by decide +kernel, rfl⟩
theorem d_mod_number_169 : cf_D k_mod_number 169 (.goto 20) 3 172 := ⟨by decide +kernel, rfl⟩
theorem d_mod_number_172 : cf_D k_mod_number 172 (.aload_n 0) 1 173 := ⟨by decide +kernel, rfl⟩
theorem d_mod_number_173 : cf_D k_mod_number 173 (.getfield 19) 3 176 := ⟨by decide +kernel, rfl⟩
theorem d_mod_number_176 : cf_D k_mod_number 176 (.iload_n 3) 1 177 := ⟨by decide +kernel, rfl⟩
theorem d_mod_number_177 : cf_D k_mod_number 177 (.iaload) 1 178 := ⟨by decide +kernel, rfl⟩
theorem d_mod_number_178 : cf_D k_mod_number 178 (.bipush 43) 2 180 := ⟨by decide +kernel, rfl⟩
theorem d_mod_number_180 : cf_D k_mod_number 180 (.if_icmp .ne 9) 3 183 := ⟨by decide +kernel, rfl⟩
theorem d_mod_number_183 : cf_D k_mod_number 183 (.aload_n 0) 1 184 := ⟨by decide +kernel, rfl⟩
theorem d_mod_number_184 : cf_D k_mod_number 184 (.bipush 43) 2 186 := ⟨by decide +kernel, rfl⟩
theorem d_mod_number_186 : cf_D k_mod_number 186 (.invokevirtual 132) 3 189 := ⟨by decide +kernel, rfl⟩
theorem d_mod_number_189 : cf_D k_mod_number 189 (.iinc 3 1) 3 192 := ⟨by decide +kernel, rfl⟩
theorem d_mod_number_192 : cf_D k_mod_number 192 (.goto (-129)) 3 195 := ⟨by decide +kernel, rfl⟩
theorem d_mod_number_195 : cf_D k_mod_number 195 (.return_) 1 196 := ⟨by decide +kernel, rfl⟩
theorem d_mod_place_0 : cf_D k_mod_place 0 (.aload_n 0) 1 1 := ⟨by decide +kernel, rfl⟩
theorem d_mod_place_1 : cf_D k_mod_place 1 (.getfield 25) 3 4 := ⟨by decide +kernel, rfl⟩
theorem d_mod_place_4 : cf_D k_mod_place 4 (.iload_n 1) 1 5 := ⟨by decide +kernel, rfl⟩
theorem d_mod_place_5 : cf_D k_mod_place 5 (.iaload) 1 6 := ⟨by decide +kernel, rfl⟩
theorem d_mod_place_6 : cf_D k_mod_place 6 (.istore 4) 2 8 := ⟨by decide +kernel, rfl⟩
theorem d_mod_place_8 : cf_D k_mod_place 8 (.aload_n 0) 1 9 := ⟨by decide +kernel, rfl⟩
theorem d_mod_place_9 : cf_D k_mod_place 9 (.getfield 25) 3 12 := ⟨by decide +kernel, rfl⟩
theorem d_mod_place_12 : cf_D k_mod_place 12 (.iload_n 1) 1 13 := ⟨by decide +kernel, rfl⟩
theorem d_mod_place_13 : cf_D k_mod_place 13 (.iconst 1) 1 14 := ⟨by decide +kernel, rfl⟩
theorem d_mod_place_14 : cf_D k_mod_place 14 (.iadd) 1 15 := ⟨by decide +kernel, rfl⟩
theorem d_mod_place_15 : cf_D k_mod_place 15 (.iaload) 1 16 := ⟨by decide +kernel, rfl⟩
theorem d_mod_place_16 : cf_D k_mod_place 16 (.istore 5) 2 18 := ⟨by decide +kernel, rfl⟩
theorem d_mod_place_18 : cf_D k_mod_place 18 (.aload_n 0) 1 19 := ⟨by decide +kernel, rfl⟩
theorem d_mod_place_19 : cf_D k_mod_place 19 (.iload_n 1) 1 20 := ⟨by decide +kernel, rfl⟩
theorem d_mod_place_20 : cf_D k_mod_place 20 (.invokevirtual 99) 3 23 := ⟨by decide +kernel, rfl⟩
theorem d_mod_place_23 : cf_D k_mod_place 23 (.istore 6) 2 25 := ⟨by decide +kernel, rfl⟩
theorem d_mod_place_25 : cf_D k_mod_place 25 (.aload_n 0) 1 26 := ⟨by decide +kernel, rfl⟩
theorem d_mod_place_26 : cf_D k_mod_place 26 (.iload_n 1) 1 27 := ⟨by decide +kernel, rfl⟩
theorem d_mod_place_27 : cf_D k_mod_place 27 (.bipush 6) 2 29 := ⟨by decide +kernel, rfl⟩
theorem d_mod_place_29 : cf_D k_mod_place 29 (.invokevirtual 95) 3 32 := ⟨by decide +kernel, rfl⟩
theorem d_mod_place_32 : cf_D k_mod_place 32 (.istore 7) 2 34 := ⟨by decide +kernel, rfl⟩
theorem d_mod_place_34 : cf_D k_mod_place 34 (.iload_n 2) 1 35 := ⟨by decide +kernel, rfl⟩
theorem d_mod_place_35 : cf_D k_mod_place 35 (.iload 6) 2 37 := ⟨by decide +kernel, rfl⟩
theorem d_mod_place_37 : cf_D k_mod_place 37 (.if_icmp .ge 38) 3 40 := ⟨by decide +kernel, rfl⟩
theorem d_mod_place_40 : cf_D k_mod_place 40 (.aload_n 0) 1 41 := ⟨by decide +kernel, rfl⟩
theorem d_mod_place_41 : cf_D k_mod_place 41 (.iload_n 2) 1 42 := ⟨by decide +kernel, rfl⟩
theorem d_mod_place_42 : cf_D k_mod_place 42 (.aload_n 0) 1 43 := ⟨by decide +kernel, rfl⟩
theorem d_mod_place_43 : cf_D k_mod_place 43 (.iload_n 2) 1 44 := ⟨by decide +kernel, rfl⟩
theorem d_mod_place_44 : cf_D k_mod_place 44 (.iconst 1) 1 45 := ⟨by decide +kernel, rfl⟩
theorem d_mod_place_45 : cf_D k_mod_place 45 (.iadd) 1 46 := ⟨by decide +kernel, rfl⟩
theorem d_mod_place_46 : cf_D k_mod_place 46 (.iload 6) 2 48 := ⟨by decide +kernel, rfl⟩
theorem d_mod_place_48 : cf_D k_mod_place 48 (.iconst 2) 1 49 := ⟨by decide +kernel, rfl⟩
theorem d_mod_place_49 : cf_D k_mod_place 49 (.invokevirtual 91) 3 52 := ⟨by decide +kernel, rfl⟩
theorem d_mod_place_52 : cf_D k_mod_place 52 (.aload_n 0) 1 53 := ⟨by decide +kernel, rfl⟩
theorem d_mod_place_53 : cf_D k_mod_place 53 (.iload 4) 2 55 := ⟨by decide +kernel, rfl⟩
theorem d_mod_place_55 : cf_D k_mod_place 55 (.iload_n 2) 1 56 := ⟨by decide +kernel, rfl⟩
theorem d_mod_place_56 : cf_D k_mod_place 56 (.iconst 2) 1 57 := ⟨by decide +kernel, rfl⟩
theorem d_mod_place_57 : cf_D k_mod_place 57 (.invokevirtual 91) 3 60 := ⟨by decide +kernel, rfl⟩
theorem d_mod_place_60 : cf_D k_mod_place 60 (.ifCond .ne 7) 3 63 := ⟨by decide +kernel, rfl⟩
theorem d_mod_place_63 : cf_D k_mod_place 63 (.iconst 1) 1 64 := ⟨by decide +kernel, rfl⟩
theorem d_mod_place_64 : cf_D k_mod_place 64 (.goto 4) 3 67 := ⟨by decide +kernel, rfl⟩
theorem d_mod_place_67 : cf_D k_mod_place 67 (.iconst 0) 1 68 := ⟨by decide +kernel, rfl⟩
theorem d_mod_place_68 : cf_D k_mod_place 68 (.iload_n 3) 1 69 := ⟨by decide +kernel, rfl⟩
theorem d_mod_place_69 : cf_D k_mod_place 69 (.invokevirtual 176) 3 72 := ⟨by decide +kernel, rfl⟩
theorem d_mod_place_72 : cf_D k_mod_place 72 (.goto 58) 3 75 := ⟨by decide +kernel, rfl⟩
theorem d_mod_place_75 : cf_D k_mod_place 75 (.iload_n 2) 1 76 := ⟨by decide +kernel, rfl⟩
theorem d_mod_place_76 : cf_D k_mod_place 76 (.iload 7) 2 78 := ⟨by decide +kernel, rfl⟩
theorem d_mod_place_78 : cf_D k_mod_place 78 (.if_icmp .ge 21) 3 81 := ⟨by decide +kernel, rfl⟩
theorem d_mod_place_81 : cf_D k_mod_place 81 (.aload_n 0) 1 82 := ⟨by decide +kernel, rfl⟩
theorem d_mod_place_82 : cf_D k_mod_place 82 (.iload_n 2) 1 83 := ⟨by decide +kernel, rfl⟩
theorem d_mod_place_83 : cf_D k_mod_place 83 (.aload_n 0) 1 84 := ⟨by decide +kernel, rfl⟩
theorem d_mod_place_84 : cf_D k_mod_place 84 (.iload 6) 2 86 := ⟨by decide +kernel, rfl⟩
theorem d_mod_place_86 : cf_D k_mod_place 86 (.iload_n 2) 1 87 := ⟨by decide +kernel, rfl⟩
theorem d_mod_place_87 : cf_D k_mod_place 87 (.iconst 1) 1 88 := ⟨by decide +kernel, rfl⟩
theorem d_mod_place_88 : cf_D k_mod_place 88 (.iadd) 1 89 := ⟨by decide +kernel, rfl⟩
theorem d_mod_place_89 : cf_D k_mod_place 89 (.iconst 2) 1 90 := ⟨by decide +kernel, rfl⟩
theorem d_mod_place_90 : cf_D k_mod_place 90 (.invokevirtual 91) 3 93 := ⟨by decide +kernel, rfl⟩
theorem d_mod_place_93 : cf_D k_mod_place 93 (.invokevirtual 180) 3 96 := ⟨by decide +kernel, rfl⟩
theorem d_mod_place_96 : cf_D k_mod_place 96 (.goto 34) 3 99 := ⟨by decide +kernel, rfl⟩
theorem d_mod_place_99 : cf_D k_mod_place 99 (.aload_n 0) 1 100 := ⟨by decide +kernel, rfl⟩
theorem d_mod_place_100 : cf_D k_mod_place 100 (.iload_n 2) 1 101 := ⟨by decide +kernel, rfl⟩
theorem d_mod_place_101 : cf_D k_mod_place 101 (.aload_n 0) 1 102 := ⟨by decide +kernel, rfl⟩
theorem d_mod_place_102 : cf_D k_mod_place 102 (.iload_n 2) 1 103 := ⟨by decide +kernel, rfl⟩
theorem d_mod_place_103 : cf_D k_mod_place 103 (.iconst 1) 1 104 := ⟨by decide +kernel, rfl⟩
theorem d_mod_place_104 : cf_D k_mod_place 104 (.iadd) 1 105 := ⟨by decide +kernel, rfl⟩
theorem d_mod_place_105 : cf_D k_mod_place 105 (.iload 5) 2 107 := ⟨by decide +kernel, rfl⟩
theorem d_mod_place_107 : cf_D k_mod_place 107 (.iconst 2) 1 108 := ⟨by decide +kernel, rfl⟩
theorem d_mod_place_108 : cf_D k_mod_place 108 (.invokevirtual 91) 3 111 := ⟨by decide +kernel, rfl⟩
theorem d_mod_place_111 : cf_D k_mod_place 111 (.aload_n 0) 1 112 := ⟨by decide +kernel, rfl⟩
theorem d_mod_place_112 : cf_D k_mod_place 112 (.iload 7) 2 114 := ⟨by decide +kernel, rfl⟩
theorem d_mod_place_114 : cf_D k_mod_place 114 (.iload_n 2) 1 115 := ⟨by decide +kernel, rfl⟩
theorem d_mod_place_115 : cf_D k_mod_place 115 (.iconst 2) 1 116 := ⟨by decide +kernel, rfl⟩
theorem d_mod_place_116 : cf_D k_mod_place 116 (.invokevirtual 91) 3 119 := ⟨by decide +kernel, rfl⟩
theorem d_mod_place_119 : cf_D k_mod_place 119 (.ifCond .ne 7) 3 122 := ⟨by decide +kernel, rfl⟩
theorem d_mod_place_122 : cf_D k_mod_place 122 (.iconst 1) 1 123 := ⟨by decide +kernel, rfl⟩
theorem d_mod_place_123 : cf_D k_mod_place 123 (.goto 4) 3 126 := ⟨by decide +kernel, rfl⟩
theorem d_mod_place_126 : cf_D k_mod_place 126 (.iconst 0) 1 127 := ⟨by decide +kernel, rfl⟩
theorem d_mod_place_127 : cf_D k_mod_place 127 (.invokevirtual 184) 3 130 := ⟨by decide +kernel, rfl⟩
theorem d_mod_place_130 : cf_D k_mod_place 130 (.return_) 1 131 := ⟨by decide +kernel, rfl⟩
theorem d_mod_integerPlace_0 : cf_D k_mod_integerPlace 0 (.aload_n 0) 1 1 := ⟨by decide +kernel, rfl⟩
theorem d_mod_integerPlace_1 : cf_D k_mod_integerPlace 1 (.getfield 148) 3 4 := ⟨by decide +kernel, rfl⟩
theorem d_mod_integerPlace_4 : cf_D k_mod_integerPlace 4 (.lconst 0) 1 5 := ⟨by decide +kernel, rfl⟩
theorem d_mod_integerPlace_5 : cf_D k_mod_integerPlace 5 (.lcmp) 1 6 := ⟨by decide +kernel, rfl⟩
theorem d_mod_integerPlace_6 : cf_D k_mod_integerPlace 6 (.ifCond .le 14) 3 9 := ⟨by decide +kernel, rfl⟩
theorem d_mod_integerPlace_9 : cf_D k_mod_integerPlace 9 (.aload_n 0) 1 10 := ⟨by decide +kernel, rfl⟩
theorem d_mod_integerPlace_10 : cf_D k_mod_integerPlace 10 (.invokevirtual 165) 3 13 := ⟨by decide +kernel, rfl⟩
theorem d_mod_integerPlace_13 : cf_D k_mod_integerPlace 13 (.ifCond .lt 7) 3 16 := ⟨by decide +kernel, rfl⟩
theorem d_mod_integerPlace_16 : cf_D k_mod_integerPlace 16 (.iconst 1) 1 17 := ⟨by decide +kernel, rfl⟩
theorem d_mod_integerPlace_17 : cf_D k_mod_integerPlace 17 (.goto 4) 3 20 := ⟨by decide +kernel, rfl⟩
theorem d_mod_integerPlace_20 : cf_D k_mod_integerPlace 20 (.iconst 0) 1 21 := ⟨by decide +kernel, rfl⟩
theorem d_mod_integerPlace_21 : cf_D k_mod_integerPlace 21 (.istore 5) 2 23 := ⟨by decide +kernel, rfl⟩
theorem d_mod_integerPlace_23 : cf_D k_mod_integerPlace 23 (.iload 5) 2 25 := ⟨by decide +kernel, rfl⟩
theorem d_mod_integerPlace_25 : cf_D k_mod_integerPlace 25 (.ifCond .eq 10) 3 28 := ⟨by decide +kernel, rfl⟩
theorem d_mod_integerPlace_28 : cf_D k_mod_integerPlace 28 (.aload_n 0) 1 29 := ⟨by decide +kernel, rfl⟩
theorem d_mod_integerPlace_29 : cf_D k_mod_integerPlace 29 (.invokevirtual 165) 3 32 := ⟨by decide +kernel, rfl⟩
theorem d_mod_integerPlace_32 : cf_D k_mod_integerPlace 32 (.goto 4) 3 35 := ⟨by decide +kernel, rfl⟩
theorem d_mod_integerPlace_35 : cf_D k_mod_integerPlace 35 (.iconst (-1)) 1 36 := ⟨by decide +kernel, rfl⟩
theorem d_mod_integerPlace_36 : cf_D k_mod_integerPlace 36 (.istore 6) 2 38 := ⟨by decide +kernel, rfl⟩
theorem d_mod_integerPlace_38 : cf_D k_mod_integerPlace 38 (.iload_n 3) 1 39 := ⟨by decide +kernel, rfl⟩
theorem d_mod_integerPlace_39 : cf_D k_mod_integerPlace 39 (.ifCond .eq 46) 3 42 := ⟨by decide +kernel, rfl⟩
theorem d_mod_integerPlace_42 : cf_D k_mod_integerPlace 42 (.iload 6) 2 44 := ⟨by decide +kernel, rfl⟩
theorem d_mod_integerPlace_44 : cf_D k_mod_integerPlace 44 (.iload_n 2) 1 45 := ⟨by decide +kernel, rfl⟩
theorem d_mod_integerPlace_45 : cf_D k_mod_integerPlace 45 (.if_icmp .le 40) 3 48 := ⟨by decide +kernel, rfl⟩
theorem d_mod_integerPlace_48 : cf_D k_mod_integerPlace 48 (.aload_n 0) 1 49 := ⟨by decide +kernel, rfl⟩
theorem d_mod_integerPlace_49 : cf_D k_mod_integerPlace 49 (.bipush 48) 2 51 := ⟨by decide +kernel, rfl⟩
theorem d_mod_integerPlace_51 : cf_D k_mod_integerPlace 51 (.aload_n 0) 1 52 := ⟨by decide +kernel, rfl⟩
theorem d_mod_integerPlace_52 : cf_D k_mod_integerPlace 52 (.iload 6) 2 54 := ⟨by decide +kernel, rfl⟩
theorem d_mod_integerPlace_54 : cf_D k_mod_integerPlace 54 (.invokevirtual 169) 3 57 := ⟨by decide +kernel, rfl⟩
theorem d_mod_integerPlace_57 : cf_D k_mod_integerPlace 57 (.iadd) 1 58 := ⟨by decide +kernel, rfl⟩
theorem d_mod_integerPlace_58 : cf_D k_mod_integerPlace 58 (.invokevirtual 132) 3 61 := ⟨by decide +kernel, rfl⟩
theorem d_mod_integerPlace_61 : cf_D k_mod_integerPlace 61 (.iload 4) 2 63 := ⟨by decide +kernel, rfl⟩
theorem d_mod_integerPlace_63 : cf_D k_mod_integerPlace 63 (.ifCond .eq 16) 3 66 := ⟨by decide +kernel, rfl⟩
theorem d_mod_integerPlace_66 : cf_D k_mod_integerPlace 66 (.iload 6) 2 68 := ⟨by decide +kernel, rfl⟩
theorem d_mod_integerPlace_68 : cf_D k_mod_integerPlace 68 (.iconst 3) 1 69 := ⟨by decide +kernel, rfl⟩
theorem d_mod_integerPlace_69 : cf_D k_mod_integerPlace 69 (.irem) 1 70 := ⟨by decide +kernel, rfl⟩
theorem d_mod_integerPlace_70 : cf_D k_mod_integerPlace 70 (.ifCond .ne 9) 3 73 := ⟨by decide +kernel, rfl⟩
theorem d_mod_integerPlace_73 : cf_D k_mod_integerPlace 73 (.aload_n 0) 1 74 := ⟨by decide +kernel, rfl⟩
theorem d_mod_integerPlace_74 : cf_D k_mod_integerPlace 74 (.bipush 44) 2 76 := ⟨by decide +kernel, rfl⟩
theorem d_mod_integerPlace_76 : cf_D k_mod_integerPlace 76 (.invokevirtual 132) 3 79 := ⟨by decide +kernel, rfl⟩
theorem d_mod_integerPlace_79 : cf_D k_mod_integerPlace 79 (.iinc 6 (-1)) 3 82 := ⟨by decide +kernel, rfl⟩
theorem d_mod_integerPlace_82 : cf_D k_mod_integerPlace 82 (.goto (-44)) 3 85 := ⟨by decide +kernel, rfl⟩
theorem d_mod_integerPlace_85 : cf_D k_mod_integerPlace 85 (.iload 5) 2 87 := ⟨by decide +kernel, rfl⟩
theorem d_mod_integerPlace_87 : cf_D k_mod_integerPlace 87 (.ifCond .eq 15) 3 90 := ⟨by decide +kernel, rfl⟩
theorem d_mod_integerPlace_90 : cf_D k_mod_integerPlace 90 (.iload_n 2) 1 91 := ⟨by decide +kernel, rfl⟩
theorem d_mod_integerPlace_91 : cf_D k_mod_integerPlace 91 (.aload_n 0) 1 92 := ⟨by decide +kernel, rfl⟩
theorem d_mod_integerPlace_92 : cf_D k_mod_integerPlace 92 (.invokevirtual 165) 3 95 := ⟨by decide +kernel, rfl⟩
theorem d_mod_integerPlace_95 : cf_D k_mod_integerPlace 95 (.if_icmp .gt 7) 3 98 := ⟨by decide +kernel, rfl⟩
theorem d_mod_integerPlace_98 : cf_D k_mod_integerPlace 98 (.iconst 1) 1 99 := ⟨by decide +kernel, rfl⟩
theorem d_mod_integerPlace_99 : cf_D k_mod_integerPlace 99 (.goto 4) 3 102 := ⟨by decide +kernel, rfl⟩
theorem d_mod_integerPlace_102 : cf_D k_mod_integerPlace 102 (.iconst 0) 1 103 := ⟨by decide +kernel, rfl⟩
theorem d_mod_integerPlace_103 : cf_D k_mod_integerPlace 103 (.istore 6) 2 105 := ⟨by decide +kernel, rfl⟩
theorem d_mod_integerPlace_105 : cf_D k_mod_integerPlace 105 (.iload 6) 2 107 := ⟨by decide +kernel, rfl⟩
theorem d_mod_integerPlace_107 : cf_D k_mod_integerPlace 107 (.ifCond .eq 18) 3 110 := ⟨by decide +kernel, rfl⟩
theorem d_mod_integerPlace_110 : cf_D k_mod_integerPlace 110 (.aload_n 0) 1 111 := ⟨by decide +kernel, rfl⟩
theorem d_mod_integerPlace_111 : cf_D k_mod_integerPlace 111 (.bipush 48) 2 113 := ⟨by decide +kernel, rfl⟩
theorem d_mod_integerPlace_113 : cf_D k_mod_integerPlace 113 (.aload_n 0) 1 114 := ⟨by decide +kernel, rfl⟩
theorem d_mod_integerPlace_114 : cf_D k_mod_integerPlace 114 (.iload_n 2) 1 115 := ⟨by decide +kernel, rfl⟩
theorem d_mod_integerPlace_115 : cf_D k_mod_integerPlace 115 (.invokevirtual 169) 3 118 := ⟨by decide +kernel, rfl⟩
theorem d_mod_integerPlace_118 : cf_D k_mod_integerPlace 118 (.iadd) 1 119 := ⟨by decide +kernel, rfl⟩
theorem d_mod_integerPlace_119 : cf_D k_mod_integerPlace 119 (.invokevirtual 132) 3 122 := ⟨by decide +kernel, rfl⟩
theorem d_mod_integerPlace_122 : cf_D k_mod_integerPlace 122 (.goto 40) 3 125 := ⟨by decide +kernel, rfl⟩
theorem d_mod_integerPlace_125 : cf_D k_mod_integerPlace 125 (.aload_n 0) 1 126 := ⟨by decide +kernel, rfl⟩
theorem d_mod_integerPlace_126 : cf_D k_mod_integerPlace 126 (.getfield 19) 3 129 := ⟨by decide +kernel, rfl⟩
theorem d_mod_integerPlace_129 : cf_D k_mod_integerPlace 129 (.iload_n 1) 1 130 := ⟨by decide +kernel, rfl⟩
theorem d_mod_integerPlace_130 : cf_D k_mod_integerPlace 130 (.iaload) 1 131 := ⟨by decide +kernel, rfl⟩
theorem d_mod_integerPlace_131 : cf_D k_mod_integerPlace 131 (.bipush 48) 2 133 := ⟨by decide +kernel, rfl⟩
theorem d_mod_integerPlace_133 : cf_D k_mod_integerPlace 133 (.if_icmp .ne 12) 3 136 := ⟨by decide +kernel, rfl⟩
theorem d_mod_integerPlace_136 : cf_D k_mod_integerPlace 136 (.aload_n 0) 1 137 := ⟨by decide +kernel, rfl⟩
theorem d_mod_integerPlace_137 : cf_D k_mod_integerPlace 137 (.bipush 48) 2 139 := ⟨by decide +kernel, rfl⟩
theorem d_mod_integerPlace_139 : cf_D k_mod_integerPlace 139 (.invokevirtual 132) 3 142 := ⟨by decide +kernel, rfl⟩
theorem d_mod_integerPlace_142 : cf_D k_mod_integerPlace 142 (.goto 20) 3 145 := ⟨by decide +kernel, rfl⟩
theorem d_mod_integerPlace_145 : cf_D k_mod_integerPlace 145 (.aload_n 0) 1 146 := ⟨by decide +kernel, rfl⟩
theorem d_mod_integerPlace_146 : cf_D k_mod_integerPlace 146 (.getfield 19) 3 149 := ⟨by decide +kernel, rfl⟩
theorem d_mod_integerPlace_149 : cf_D k_mod_integerPlace 149 (.iload_n 1) 1 150 := ⟨by decide +kernel, rfl⟩
theorem d_mod_integerPlace_150 : cf_D k_mod_integerPlace 150 (.iaload) 1 151 := ⟨by decide +kernel, rfl⟩
theorem d_mod_integerPlace_151 : cf_D k_mod_integerPlace 151 (.bipush 63) 2 153 := ⟨by decide +kernel, rfl⟩
theorem d_mod_integerPlace_153 : cf_D k_mod_integerPlace 153 (.if_icmp .ne 9) 3 156 := ⟨by decide +kernel, rfl⟩
theorem d_mod_integerPlace_156 : cf_D k_mod_integerPlace 156 (.aload_n 0) 1 157 := ⟨by decide +kernel, rfl⟩
theorem d_mod_integerPlace_157 : cf_D k_mod_integerPlace 157 (.bipush 32) 2 159 := ⟨by decide +kernel, rfl⟩
theorem d_mod_integerPlace_159 : cf_D k_mod_integerPlace 159 (.invokevirtual 132) 3 162 := ⟨by decide +kernel, rfl⟩
theorem d_mod_integerPlace_162 : cf_D k_mod_integerPlace 162 (.iload 4) 2 164 := ⟨by decide +kernel, rfl⟩
theorem d_mod_integerPlace_164 : cf_D k_mod_integerPlace 164 (.ifCond .eq 35) 3 167 := ⟨by decide +kernel, rfl⟩
theorem d_mod_integerPlace_167 : cf_D k_mod_integerPlace 167 (.iload_n 2) 1 168 := ⟨by decide +kernel, rfl⟩
theorem d_mod_integerPlace_168 : cf_D k_mod_integerPlace 168 (.ifCond .le 31) 3 171 := ⟨by decide +kernel, rfl⟩
theorem d_mod_integerPlace_171 : cf_D k_mod_integerPlace 171 (.iload_n 2) 1 172 := ⟨by decide +kernel, rfl⟩
theorem d_mod_integerPlace_172 : cf_D k_mod_integerPlace 172 (.iconst 3) 1 173 := ⟨by decide +kernel, rfl⟩
theorem d_mod_integerPlace_173 : cf_D k_mod_integerPlace 173 (.irem) 1 174 := ⟨by decide +kernel, rfl⟩
theorem d_mod_integerPlace_174 : cf_D k_mod_integerPlace 174 (.ifCond .ne 25) 3 177 := ⟨by decide +kernel, rfl⟩
theorem d_mod_integerPlace_177 : cf_D k_mod_integerPlace 177 (.iload 6) 2 179 := ⟨by decide +kernel, rfl⟩
theorem d_mod_integerPlace_179 : cf_D k_mod_integerPlace 179 (.ifCond .ne 14) 3 182 := ⟨by decide +kernel, rfl⟩
theorem d_mod_integerPlace_182 : cf_D k_mod_integerPlace 182 (.aload_n 0) 1 183 := ⟨by decide +kernel, rfl⟩
theorem d_mod_integerPlace_183 : cf_D k_mod_integerPlace 183 (.getfield 19) 3 186 := ⟨by decide +kernel, rfl⟩
theorem d_mod_integerPlace_186 : cf_D k_mod_integerPlace 186 (.iload_n 1) 1 187 := ⟨by decide +kernel, rfl⟩
theorem d_mod_integerPlace_187 : cf_D k_mod_integerPlace 187 (.iaload) 1 188 := ⟨by decide +kernel, rfl⟩
theorem d_mod_integerPlace_188 : cf_D k_mod_integerPlace 188 (.bipush 48) 2 190 := ⟨by decide +kernel, rfl⟩
theorem d_mod_integerPlace_190 : cf_D k_mod_integerPlace 190 (.if_icmp .ne 9) 3 193 := ⟨by decide +kernel, rfl⟩
theorem d_mod_integerPlace_193 : cf_D k_mod_integerPlace 193 (.aload_n 0) 1 194 := ⟨by decide +kernel, rfl⟩
theorem d_mod_integerPlace_194 : cf_D k_mod_integerPlace 194 (.bipush 44) 2 196 := ⟨by decide +kernel, rfl⟩
theorem d_mod_integerPlace_196 : cf_D k_mod_integerPlace 196 (.invokevirtual 132) 3 199 := ⟨by decide +kernel, rfl⟩
theorem d_mod_integerPlace_199 : cf_D k_mod_integerPlace 199 (.return_) 1 200 := ⟨by decide +kernel, rfl⟩
theorem d_mod_digitOf_0 : cf_D k_mod_digitOf 0 (.iload_n 1) 1 1 := ⟨by decide +kernel, rfl⟩
theorem d_mod_digitOf_1 : cf_D k_mod_digitOf 1 (.aload_n 0) 1 2 := ⟨by decide +kernel, rfl⟩
theorem d_mod_digitOf_2 : cf_D k_mod_digitOf 2 (.getfield 142) 3 5 := ⟨by decide +kernel, rfl⟩
theorem d_mod_digitOf_5 : cf_D k_mod_digitOf 5 (.iadd) 1 6 := ⟨by decide +kernel, rfl⟩
theorem d_mod_digitOf_6 : cf_D k_mod_digitOf 6 (.aload_n 0) 1 7 := ⟨by decide +kernel, rfl⟩
theorem d_mod_digitOf_7 : cf_D k_mod_digitOf 7 (.getfield 145) 3 10 := ⟨by decide +kernel, rfl⟩
theorem d_mod_digitOf_10 : cf_D k_mod_digitOf 10 (.isub) 1 11 := ⟨by decide +kernel, rfl⟩
theorem d_mod_digitOf_11 : cf_D k_mod_digitOf 11 (.istore_n 2) 1 12 := ⟨by decide +kernel, rfl⟩
theorem d_mod_digitOf_12 : cf_D k_mod_digitOf 12 (.iload_n 2) 1 13 := ⟨by decide +kernel, rfl⟩
theorem d_mod_digitOf_13 : cf_D k_mod_digitOf 13 (.ifCond .lt 9) 3 16 := ⟨by decide +kernel, rfl⟩
theorem d_mod_digitOf_16 : cf_D k_mod_digitOf 16 (.iload_n 2) 1 17 := ⟨by decide +kernel, rfl⟩
theorem d_mod_digitOf_17 : cf_D k_mod_digitOf 17 (.bipush 17) 2 19 := ⟨by decide +kernel, rfl⟩
theorem d_mod_digitOf_19 : cf_D k_mod_digitOf 19 (.if_icmp .le 5) 3 22 := ⟨by decide +kernel, rfl⟩
theorem d_mod_digitOf_22 : cf_D k_mod_digitOf 22 (.iconst 0) 1 23 := ⟨by decide +kernel, rfl⟩
theorem d_mod_digitOf_23 : cf_D k_mod_digitOf 23 (.ireturn) 1 24 := ⟨by decide +kernel, rfl⟩
theorem d_mod_digitOf_24 : cf_D k_mod_digitOf 24 (.aload_n 0) 1 25 := ⟨by decide +kernel, rfl⟩
theorem d_mod_digitOf_25 : cf_D k_mod_digitOf 25 (.getfield 148) 3 28 := ⟨by decide +kernel, rfl⟩
theorem d_mod_digitOf_28 : cf_D k_mod_digitOf 28 (.lstore_n 3) 1 29 := ⟨by decide +kernel, rfl⟩
theorem d_mod_digitOf_29 : cf_D k_mod_digitOf 29 (.iconst 0) 1 30 := ⟨by decide +kernel, rfl⟩
theorem d_mod_digitOf_30 : cf_D k_mod_digitOf 30 (.istore 5) 2 32 := ⟨by decide +kernel, rfl⟩
theorem d_mod_digitOf_32 : cf_D k_mod_digitOf 32 (.iload 5) 2 34 := ⟨by decide +kernel, rfl⟩
theorem d_mod_digitOf_34 : cf_D k_mod_digitOf 34 (.iload_n 2) 1 35 := ⟨by decide +kernel, rfl⟩
theorem d_mod_digitOf_35 : cf_D k_mod_digitOf 35 (.if_icmp .ge 15) 3 38 := ⟨by decide +kernel, rfl⟩
theorem d_mod_digitOf_38 : cf_D k_mod_digitOf 38 (.lload_n 3) 1 39 := ⟨by decide +kernel, rfl⟩
theorem d_mod_digitOf_39 : cf_D k_mod_digitOf 39 (.ldc2_w 135) 3 42 := ⟨by decide +kernel, rfl⟩
theorem d_mod_digitOf_42 : cf_D k_mod_digitOf 42 (.ldiv) 1 43 := ⟨by decide +kernel, rfl⟩
theorem d_mod_digitOf_43 : cf_D k_mod_digitOf 43 (.lstore_n 3) 1 44 := ⟨by decide +kernel, rfl⟩
theorem d_mod_digitOf_44 : cf_D k_mod_digitOf 44 (.iinc 5 1) 3 47 := ⟨by decide +kernel, rfl⟩
theorem d_mod_digitOf_47 : cf_D k_mod_digitOf 47 (.goto (-15)) 3 50 := ⟨by decide +kernel, rfl⟩
theorem d_mod_digitOf_50 : cf_D k_mod_digitOf 50 (.lload_n 3) 1 51 := ⟨by decide +kernel, rfl⟩
theorem d_mod_digitOf_51 : cf_D k_mod_digitOf 51 (.ldc2_w 135) 3 54 := ⟨by decide +kernel, rfl⟩
theorem d_mod_digitOf_54 : cf_D k_mod_digitOf 54 (.lrem) 1 55 := ⟨by decide +kernel, rfl⟩
theorem d_mod_digitOf_55 : cf_D k_mod_digitOf 55 (.l2i) 1 56 := ⟨by decide +kernel, rfl⟩
theorem d_mod_digitOf_56 : cf_D k_mod_digitOf 56 (.ireturn) 1 57 := ⟨by decide +kernel, rfl⟩
theorem d_mod_fractionPlace_0 : cf_D k_mod_fractionPlace 0 (.iconst 0) 1 1 := ⟨by decide +kernel, rfl⟩
theorem d_mod_fractionPlace_1 : cf_D k_mod_fractionPlace 1 (.istore_n 3) 1 2 := ⟨by decide +kernel, rfl⟩
theorem d_mod_fractionPlace_2 : cf_D k_mod_fractionPlace 2 (.iload_n 2) 1 3 := ⟨by decide +kernel, rfl⟩
theorem d_mod_fractionPlace_3 : cf_D k_mod_fractionPlace 3 (.istore 4) 2 5 := ⟨by decide +kernel, rfl⟩
theorem d_mod_fractionPlace_5 : cf_D k_mod_fractionPlace 5 (.iload 4) 2 7 := ⟨by decide +kernel, rfl⟩
theorem d_mod_fractionPlace_7 : cf_D k_mod_fractionPlace 7 (.aload_n 0) 1 8 := ⟨by decide +kernel, rfl⟩
theorem d_mod_fractionPlace_8 : cf_D k_mod_fractionPlace 8 (.getfield 142) 3 11 := ⟨by decide +kernel, rfl⟩
theorem d_mod_fractionPlace_11 : cf_D k_mod_fractionPlace 11 (.if_icmp .gt 29) 3 14 := ⟨by decide +kernel, rfl⟩
theorem d_mod_fractionPlace_14 : cf_D k_mod_fractionPlace 14 (.iload_n 3) 1 15 := ⟨by decide +kernel, rfl⟩
theorem d_mod_fractionPlace_15 : cf_D k_mod_fractionPlace 15 (.ifCond .ne 13) 3 18 := ⟨by decide +kernel, rfl⟩
theorem d_mod_fractionPlace_18 : cf_D k_mod_fractionPlace 18 (.aload_n 0) 1 19 := ⟨by decide +kernel, rfl⟩
theorem d_mod_fractionPlace_19 : cf_D k_mod_fractionPlace 19 (.iload 4) 2 21 := ⟨by decide +kernel, rfl⟩
theorem d_mod_fractionPlace_21 : cf_D k_mod_fractionPlace 21 (.ineg) 1 22 := ⟨by decide +kernel, rfl⟩
theorem d_mod_fractionPlace_22 : cf_D k_mod_fractionPlace 22 (.invokevirtual 169) 3 25 := ⟨by decide +kernel, rfl⟩
theorem d_mod_fractionPlace_25 : cf_D k_mod_fractionPlace 25 (.ifCond .eq 7) 3 28 := ⟨by decide +kernel, rfl⟩
theorem d_mod_fractionPlace_28 : cf_D k_mod_fractionPlace 28 (.iconst 1) 1 29 := ⟨by decide +kernel, rfl⟩
theorem d_mod_fractionPlace_29 : cf_D k_mod_fractionPlace 29 (.goto 4) 3 32 := ⟨by decide +kernel, rfl⟩
theorem d_mod_fractionPlace_32 : cf_D k_mod_fractionPlace 32 (.iconst 0) 1 33 := ⟨by decide +kernel, rfl⟩
theorem d_mod_fractionPlace_33 : cf_D k_mod_fractionPlace 33 (.istore_n 3) 1 34 := ⟨by decide +kernel, rfl⟩
theorem d_mod_fractionPlace_34 : cf_D k_mod_fractionPlace 34 (.iinc 4 1) 3 37 := ⟨by decide +kernel, rfl⟩
theorem d_mod_fractionPlace_37 : cf_D k_mod_fractionPlace 37 (.goto (-32)) 3 40 := ⟨by decide +kernel, rfl⟩
theorem d_mod_fractionPlace_40 : cf_D k_mod_fractionPlace 40 (.iload_n 3) 1 41 := ⟨by decide +kernel, rfl⟩
theorem d_mod_fractionPlace_41 : cf_D k_mod_fractionPlace 41 (.ifCond .ne 14) 3 44 := ⟨by decide +kernel, rfl⟩
theorem d_mod_fractionPlace_44 : cf_D k_mod_fractionPlace 44 (.aload_n 0) 1 45 := ⟨by decide +kernel, rfl⟩
theorem d_mod_fractionPlace_45 : cf_D k_mod_fractionPlace 45 (.getfield 19) 3 48 := ⟨by decide +kernel, rfl⟩
theorem d_mod_fractionPlace_48 : cf_D k_mod_fractionPlace 48 (.iload_n 1) 1 49 := ⟨by decide +kernel, rfl⟩
theorem d_mod_fractionPlace_49 : cf_D k_mod_fractionPlace 49 (.iaload) 1 50 := ⟨by decide +kernel, rfl⟩
theorem d_mod_fractionPlace_50 : cf_D k_mod_fractionPlace 50 (.bipush 48) 2 52 := ⟨by decide +kernel, rfl⟩
theorem d_mod_fractionPlace_52 : cf_D k_mod_fractionPlace 52 (.if_icmp .ne 19) 3 55 := ⟨by decide +kernel, rfl⟩
theorem d_mod_fractionPlace_55 : cf_D k_mod_fractionPlace 55 (.aload_n 0) 1 56 := ⟨by decide +kernel, rfl⟩
theorem d_mod_fractionPlace_56 : cf_D k_mod_fractionPlace 56 (.bipush 48) 2 58 := ⟨by decide +kernel, rfl⟩
theorem d_mod_fractionPlace_58 : cf_D k_mod_fractionPlace 58 (.aload_n 0) 1 59 := ⟨by decide +kernel, rfl⟩
theorem d_mod_fractionPlace_59 : cf_D k_mod_fractionPlace 59 (.iload_n 2) 1 60 := ⟨by decide +kernel, rfl⟩
theorem d_mod_fractionPlace_60 : cf_D k_mod_fractionPlace 60 (.ineg) 1 61 := ⟨by decide +kernel, rfl⟩
theorem d_mod_fractionPlace_61 : cf_D k_mod_fractionPlace 61 (.invokevirtual 169) 3 64 := ⟨by decide +kernel, rfl⟩
theorem d_mod_fractionPlace_64 : cf_D k_mod_fractionPlace 64 (.iadd) 1 65 := ⟨by decide +kernel, rfl⟩
theorem d_mod_fractionPlace_65 : cf_D k_mod_fractionPlace 65 (.invokevirtual 132) 3 68 := ⟨by decide +kernel, rfl⟩
theorem d_mod_fractionPlace_68 : cf_D k_mod_fractionPlace 68 (.goto 20) 3 71 := ⟨by decide +kernel, rfl⟩
theorem d_mod_fractionPlace_71 : cf_D k_mod_fractionPlace 71 (.aload_n 0) 1 72 := ⟨by decide +kernel, rfl⟩
theorem d_mod_fractionPlace_72 : cf_D k_mod_fractionPlace 72 (.getfield 19) 3 75 := ⟨by decide +kernel, rfl⟩
theorem d_mod_fractionPlace_75 : cf_D k_mod_fractionPlace 75 (.iload_n 1) 1 76 := ⟨by decide +kernel, rfl⟩
theorem d_mod_fractionPlace_76 : cf_D k_mod_fractionPlace 76 (.iaload) 1 77 := ⟨by decide +kernel, rfl⟩
theorem d_mod_fractionPlace_77 : cf_D k_mod_fractionPlace 77 (.bipush 63) 2 79 := ⟨by decide +kernel, rfl⟩
theorem d_mod_fractionPlace_79 : cf_D k_mod_fractionPlace 79 (.if_icmp .ne 9) 3 82 := ⟨by decide +kernel, rfl⟩
theorem d_mod_fractionPlace_82 : cf_D k_mod_fractionPlace 82 (.aload_n 0) 1 83 := ⟨by decide +kernel, rfl⟩
theorem d_mod_fractionPlace_83 : cf_D k_mod_fractionPlace 83 (.bipush 32) 2 85 := ⟨by decide +kernel, rfl⟩
theorem d_mod_fractionPlace_85 : cf_D k_mod_fractionPlace 85 (.invokevirtual 132) 3 88 := ⟨by decide +kernel, rfl⟩
theorem d_mod_fractionPlace_88 : cf_D k_mod_fractionPlace 88 (.return_) 1 89 := ⟨by decide +kernel, rfl⟩
theorem d_mod_exponentPlace_0 : cf_D k_mod_exponentPlace 0 (.aload_n 0) 1 1 := ⟨by decide +kernel, rfl⟩
theorem d_mod_exponentPlace_1 : cf_D k_mod_exponentPlace 1 (.getfield 158) 3 4 := ⟨by decide +kernel, rfl⟩
theorem d_mod_exponentPlace_4 : cf_D k_mod_exponentPlace 4 (.ifCond .ge 11) 3 7 := ⟨by decide +kernel, rfl⟩
theorem d_mod_exponentPlace_7 : cf_D k_mod_exponentPlace 7 (.aload_n 0) 1 8 := ⟨by decide +kernel, rfl⟩
theorem d_mod_exponentPlace_8 : cf_D k_mod_exponentPlace 8 (.getfield 158) 3 11 := ⟨by decide +kernel, rfl⟩
theorem d_mod_exponentPlace_11 : cf_D k_mod_exponentPlace 11 (.ineg) 1 12 := ⟨by decide +kernel, rfl⟩
theorem d_mod_exponentPlace_12 : cf_D k_mod_exponentPlace 12 (.goto 7) 3 15 := ⟨by decide +kernel, rfl⟩
theorem d_mod_exponentPlace_15 : cf_D k_mod_exponentPlace 15 (.aload_n 0) 1 16 := ⟨by decide +kernel, rfl⟩
theorem d_mod_exponentPlace_16 : cf_D k_mod_exponentPlace 16 (.getfield 158) 3 19 := ⟨by decide +kernel, rfl⟩
theorem d_mod_exponentPlace_19 : cf_D k_mod_exponentPlace 19 (.istore 4) 2 21 := ⟨by decide +kernel, rfl⟩
theorem d_mod_exponentPlace_21 : cf_D k_mod_exponentPlace 21 (.iconst 1) 1 22 := ⟨by decide +kernel, rfl⟩
theorem d_mod_exponentPlace_22 : cf_D k_mod_exponentPlace 22 (.istore 5) 2 24 := ⟨by decide +kernel, rfl⟩
theorem d_mod_exponentPlace_24 : cf_D k_mod_exponentPlace 24 (.iconst 0) 1 25 := ⟨by decide +kernel, rfl⟩
theorem d_mod_exponentPlace_25 : cf_D k_mod_exponentPlace 25 (.istore 6) 2 27 := ⟨by decide +kernel, rfl⟩
theorem d_mod_exponentPlace_27 : cf_D k_mod_exponentPlace 27 (.iload 6) 2 29 := ⟨by decide +kernel, rfl⟩
theorem d_mod_exponentPlace_29 : cf_D k_mod_exponentPlace 29 (.iload_n 2) 1 30 := ⟨by decide +kernel, rfl⟩
theorem d_mod_exponentPlace_30 : cf_D k_mod_exponentPlace 30 (.if_icmp .ge 23) 3 33 := ⟨by decide +kernel, rfl⟩
theorem d_mod_exponentPlace_33 : cf_D k_mod_exponentPlace 33 (.iload 5) 2 35 := ⟨by decide +kernel, rfl⟩
theorem d_mod_exponentPlace_35 : cf_D k_mod_exponentPlace 35 (.iload 4) 2 37 := ⟨by decide +kernel, rfl⟩
theorem d_mod_exponentPlace_37 : cf_D k_mod_exponentPlace 37 (.if_icmp .gt 16) 3 40 := ⟨by decide +kernel, rfl⟩
theorem d_mod_exponentPlace_40 : cf_D k_mod_exponentPlace 40 (.iload 5) 2 42 := ⟨by decide +kernel, rfl⟩
theorem d_mod_exponentPlace_42 : cf_D k_mod_exponentPlace 42 (.bipush 10) 2 44 := ⟨by decide +kernel, rfl⟩
theorem d_mod_exponentPlace_44 : cf_D k_mod_exponentPlace 44 (.imul) 1 45 := ⟨by decide +kernel, rfl⟩
theorem d_mod_exponentPlace_45 : cf_D k_mod_exponentPlace 45 (.istore 5) 2 47 := ⟨by decide +kernel, rfl⟩
theorem d_mod_exponentPlace_47 : cf_D k_mod_exponentPlace 47 (.iinc 6 1) 3 50 := ⟨by decide +kernel, rfl⟩
theorem d_mod_exponentPlace_50 : cf_D k_mod_exponentPlace 50 (.goto (-23)) 3 53 := ⟨by decide +kernel, rfl⟩
theorem d_mod_exponentPlace_53 : cf_D k_mod_exponentPlace 53 (.iload 5) 2 55 := ⟨by decide +kernel, rfl⟩
theorem d_mod_exponentPlace_55 : cf_D k_mod_exponentPlace 55 (.iload 4) 2 57 := ⟨by decide +kernel, rfl⟩
theorem d_mod_exponentPlace_57 : cf_D k_mod_exponentPlace 57 (.if_icmp .gt 7) 3 60 := ⟨by decide +kernel, rfl⟩
theorem d_mod_exponentPlace_60 : cf_D k_mod_exponentPlace 60 (.iconst 1) 1 61 := ⟨by decide +kernel, rfl⟩
theorem d_mod_exponentPlace_61 : cf_D k_mod_exponentPlace 61 (.goto 4) 3 64 := ⟨by decide +kernel, rfl⟩
theorem d_mod_exponentPlace_64 : cf_D k_mod_exponentPlace 64 (.iconst 0) 1 65 := ⟨by decide +kernel, rfl⟩
theorem d_mod_exponentPlace_65 : cf_D k_mod_exponentPlace 65 (.istore 6) 2 67 := ⟨by decide +kernel, rfl⟩
theorem d_mod_exponentPlace_67 : cf_D k_mod_exponentPlace 67 (.iload_n 3) 1 68 := ⟨by decide +kernel, rfl⟩
theorem d_mod_exponentPlace_68 : cf_D k_mod_exponentPlace 68 (.ifCond .eq 27) 3 71 := ⟨by decide +kernel, rfl⟩
theorem d_mod_exponentPlace_71 : cf_D k_mod_exponentPlace 71 (.iload 4) 2 73 := ⟨by decide +kernel, rfl⟩
theorem d_mod_exponentPlace_73 : cf_D k_mod_exponentPlace 73 (.iload 5) 2 75 := ⟨by decide +kernel, rfl⟩
theorem d_mod_exponentPlace_75 : cf_D k_mod_exponentPlace 75 (.idiv) 1 76 := ⟨by decide +kernel, rfl⟩
theorem d_mod_exponentPlace_76 : cf_D k_mod_exponentPlace 76 (.bipush 10) 2 78 := ⟨by decide +kernel, rfl⟩
theorem d_mod_exponentPlace_78 : cf_D k_mod_exponentPlace 78 (.if_icmp .lt 17) 3 81 := ⟨by decide +kernel, rfl⟩
theorem d_mod_exponentPlace_81 : cf_D k_mod_exponentPlace 81 (.aload_n 0) 1 82 := ⟨by decide +kernel, rfl⟩
theorem d_mod_exponentPlace_82 : cf_D k_mod_exponentPlace 82 (.iload 4) 2 84 := ⟨by decide +kernel, rfl⟩
theorem d_mod_exponentPlace_84 : cf_D k_mod_exponentPlace 84 (.iload 5) 2 86 := ⟨by decide +kernel, rfl⟩
theorem d_mod_exponentPlace_86 : cf_D k_mod_exponentPlace 86 (.idiv) 1 87 := ⟨by decide +kernel, rfl⟩
theorem d_mod_exponentPlace_87 : cf_D k_mod_exponentPlace 87 (.bipush 10) 2 89 := ⟨by decide +kernel, rfl⟩
theorem d_mod_exponentPlace_89 : cf_D k_mod_exponentPlace 89 (.idiv) 1 90 := ⟨by decide +kernel, rfl⟩
theorem d_mod_exponentPlace_90 : cf_D k_mod_exponentPlace 90 (.i2l) 1 91 := ⟨by decide +kernel, rfl⟩
theorem d_mod_exponentPlace_91 : cf_D k_mod_exponentPlace 91 (.iconst 1) 1 92 := ⟨by decide +kernel, rfl⟩
theorem d_mod_exponentPlace_92 : cf_D k_mod_exponentPlace 92 (.invokevirtual 172) 3 95 := ⟨by decide +kernel, rfl⟩
theorem d_mod_exponentPlace_95 : cf_D k_mod_exponentPlace 95 (.iload 6) 2 97 := ⟨by decide +kernel, rfl⟩
theorem d_mod_exponentPlace_97 : cf_D k_mod_exponentPlace 97 (.ifCond .eq 21) 3 100 := ⟨by decide +kernel, rfl⟩
theorem d_mod_exponentPlace_100 : cf_D k_mod_exponentPlace 100 (.aload_n 0) 1 101 := ⟨by decide +kernel, rfl⟩
theorem d_mod_exponentPlace_101 : cf_D k_mod_exponentPlace 101 (.bipush 48) 2 103 := ⟨by decide +kernel, rfl⟩
theorem d_mod_exponentPlace_103 : cf_D k_mod_exponentPlace 103 (.iload 4) 2 105 := ⟨by decide +kernel, rfl⟩
theorem d_mod_exponentPlace_105 : cf_D k_mod_exponentPlace 105 (.iload 5) 2 107 := ⟨by decide +kernel, rfl⟩
theorem d_mod_exponentPlace_107 : cf_D k_mod_exponentPlace 107 (.idiv) 1 108 := ⟨by decide +kernel, rfl⟩
theorem d_mod_exponentPlace_108 : cf_D k_mod_exponentPlace 108 (.bipush 10) 2 110 := ⟨by decide +kernel, rfl⟩
theorem d_mod_exponentPlace_110 : cf_D k_mod_exponentPlace 110 (.irem) 1 111 := ⟨by decide +kernel, rfl⟩
theorem d_mod_exponentPlace_111 : cf_D k_mod_exponentPlace 111 (.iadd) 1 112 := ⟨by decide +kernel, rfl⟩
theorem d_mod_exponentPlace_112 : cf_D k_mod_exponentPlace 112 (.invokevirtual 132) 3 115 := ⟨by decide +kernel, rfl⟩
theorem d_mod_exponentPlace_115 : cf_D k_mod_exponentPlace 115 (.goto 40) 3 118 := ⟨by decide +kernel, rfl⟩
theorem d_mod_exponentPlace_118 : cf_D k_mod_exponentPlace 118 (.aload_n 0) 1 119 := ⟨by decide +kernel, rfl⟩
theorem d_mod_exponentPlace_119 : cf_D k_mod_exponentPlace 119 (.getfield 19) 3 122 := ⟨by decide +kernel, rfl⟩
theorem d_mod_exponentPlace_122 : cf_D k_mod_exponentPlace 122 (.iload_n 1) 1 123 := ⟨by decide +kernel, rfl⟩
theorem d_mod_exponentPlace_123 : cf_D k_mod_exponentPlace 123 (.iaload) 1 124 := ⟨by decide +kernel, rfl⟩
theorem d_mod_exponentPlace_124 : cf_D k_mod_exponentPlace 124 (.bipush 48) 2 126 := ⟨by decide +kernel, rfl⟩
theorem d_mod_exponentPlace_126 : cf_D k_mod_exponentPlace 126 (.if_icmp .ne 12) 3 129 := ⟨by decide +kernel, rfl⟩
theorem d_mod_exponentPlace_129 : cf_D k_mod_exponentPlace 129 (.aload_n 0) 1 130 := ⟨by decide +kernel, rfl⟩
theorem d_mod_exponentPlace_130 : cf_D k_mod_exponentPlace 130 (.bipush 48) 2 132 := ⟨by decide +kernel, rfl⟩
theorem d_mod_exponentPlace_132 : cf_D k_mod_exponentPlace 132 (.invokevirtual 132) 3 135 := ⟨by decide +kernel, rfl⟩
theorem d_mod_exponentPlace_135 : cf_D k_mod_exponentPlace 135 (.goto 20) 3 138 := ⟨by decide +kernel, rfl⟩
theorem d_mod_exponentPlace_138 : cf_D k_mod_exponentPlace 138 (.aload_n 0) 1 139 := ⟨by decide +kernel, rfl⟩
theorem d_mod_exponentPlace_139 : cf_D k_mod_exponentPlace 139 (.getfield 19) 3 142 := ⟨by decide +kernel, rfl⟩
theorem d_mod_exponentPlace_142 : cf_D k_mod_exponentPlace 142 (.iload_n 1) 1 143 := ⟨by decide +kernel, rfl⟩
theorem d_mod_exponentPlace_143 : cf_D k_mod_exponentPlace 143 (.iaload) 1 144 := ⟨by decide +kernel, rfl⟩
theorem d_mod_exponentPlace_144 : cf_D k_mod_exponentPlace 144 (.bipush 63) 2 146 := ⟨by decide +kernel, rfl⟩
theorem d_mod_exponentPlace_146 : cf_D k_mod_exponentPlace 146 (.if_icmp .ne 9) 3 149 := ⟨by decide +kernel, rfl⟩
theorem d_mod_exponentPlace_149 : cf_D k_mod_exponentPlace 149 (.aload_n 0) 1 150 := ⟨by decide +kernel, rfl⟩
theorem d_mod_exponentPlace_150 : cf_D k_mod_exponentPlace 150 (.bipush 32) 2 152 := ⟨by decide +kernel, rfl⟩
theorem d_mod_exponentPlace_152 : cf_D k_mod_exponentPlace 152 (.invokevirtual 132) 3 155 := ⟨by decide +kernel, rfl⟩
theorem d_mod_exponentPlace_155 : cf_D k_mod_exponentPlace 155 (.return_) 1 156 := ⟨by decide +kernel, rfl⟩
theorem d_mod_charAt_0 : cf_D k_mod_charAt 0 (.iload_n 1) 1 1 := ⟨by decide +kernel, rfl⟩
theorem d_mod_charAt_1 : cf_D k_mod_charAt 1 (.ifCond .lt 11) 3 4 := ⟨by decide +kernel, rfl⟩
theorem d_mod_charAt_4 : cf_D k_mod_charAt 4 (.iload_n 1) 1 5 := ⟨by decide +kernel, rfl⟩
theorem d_mod_charAt_5 : cf_D k_mod_charAt 5 (.aload_n 0) 1 6 := ⟨by decide +kernel, rfl⟩
theorem d_mod_charAt_6 : cf_D k_mod_charAt 6 (.getfield 129) 3 9 := ⟨by decide +kernel, rfl⟩
theorem d_mod_charAt_9 : cf_D k_mod_charAt 9 (.if_icmp .lt 7) 3 12 := ⟨by decide +kernel, rfl⟩
theorem d_mod_charAt_12 : cf_D k_mod_charAt 12 (.iconst 0) 1 13 := ⟨by decide +kernel, rfl⟩
theorem d_mod_charAt_13 : cf_D k_mod_charAt 13 (.goto 9) 3 16 := ⟨by decide +kernel, rfl⟩
theorem d_mod_charAt_16 : cf_D k_mod_charAt 16 (.aload_n 0) 1 17 := ⟨by decide +kernel, rfl⟩
theorem d_mod_charAt_17 : cf_D k_mod_charAt 17 (.getfield 32) 3 20 := ⟨by decide +kernel, rfl⟩
theorem d_mod_charAt_20 : cf_D k_mod_charAt 20 (.iload_n 1) 1 21 := ⟨by decide +kernel, rfl⟩
theorem d_mod_charAt_21 : cf_D k_mod_charAt 21 (.caload) 1 22 := ⟨by decide +kernel, rfl⟩
theorem d_mod_charAt_22 : cf_D k_mod_charAt 22 (.ireturn) 1 23 := ⟨by decide +kernel, rfl⟩
theorem d_mod_section_0 : cf_D k_mod_section 0 (.aload_n 0) 1 1 := ⟨by decide +kernel, rfl⟩
theorem d_mod_section_1 : cf_D k_mod_section 1 (.getfield 28) 3 4 := ⟨by decide +kernel, rfl⟩
theorem d_mod_section_4 : cf_D k_mod_section 4 (.ifCond .ge 8) 3 7 := ⟨by decide +kernel, rfl⟩
theorem d_mod_section_7 : cf_D k_mod_section 7 (.bipush (-3)) 2 9 := ⟨by decide +kernel, rfl⟩
theorem d_mod_section_9 : cf_D k_mod_section 9 (.goto 7) 3 12 := ⟨by decide +kernel, rfl⟩
theorem d_mod_section_12 : cf_D k_mod_section 12 (.aload_n 0) 1 13 := ⟨by decide +kernel, rfl⟩
theorem d_mod_section_13 : cf_D k_mod_section 13 (.getfield 28) 3 16 := ⟨by decide +kernel, rfl⟩
theorem d_mod_section_16 : cf_D k_mod_section 16 (.ireturn) 1 17 := ⟨by decide +kernel, rfl⟩
end
section
/-! base of the specifications -/
def cf_R0 (o k : Nat) : Option Nat := match o, k with
  | 0, 0 => some 1
  | 0, 2 => some 2
  | 0, 3 => some 6
  | 0, 4 => some 8
  | 0, 7 => some 12
  | 0, 8 => some 13
  | 0, 10 => some 15
  | 0, 11 => some 18
  | 2, 0 => some 3
  | 2, 1 => some 4
  | 2, 2 => some 5
  | 6, 0 => some 2
  | 13, 0 => some 14
  | 15, 0 => some 13
  | 15, 1 => some 16
  | 15, 2 => some 17
  | 18, 0 => some 13
  | 18, 1 => some 12
  | 19, 1 => some 20
  | 19, 3 => some 21
  | 19, 5 => some 22
  | 19, 6 => some 23
  | 19, 7 => some 24
  | 19, 8 => some 25
  | 19, 16 => some 26
  | _, _ => none
/-- the references that never change -/
def cf_ok (h : cf_H) : Prop := ∀ o k q, cf_R0 o k = some q → h.2.2.1 o k = some q
theorem cf_vin {i : Int32} {t N : Nat} (h0 : ¬ i < 0) (h1 : ¬ nI t ≤ i) (ht : t ≤ N) (hN : N < 2 ^ 31) : vp_in i N := by
  obtain ⟨j, hj, rfl, -⟩ := pk_mu h0 h1 (by omega)
  exact vp_in_nI (by omega) hN
def cf_cnt (p : Nat → Bool) : Nat → Nat → Nat
  | _, 0 => 0
  | a, n + 1 => (bif p a then 1 else 0) + cf_cnt p (a + 1) n
/-- the first place from a on, at most n further, where p holds -/
def cf_fst (p : Nat → Bool) : Nat → Nat → Nat
  | a, 0 => a
  | a, n + 1 => bif p a then a else cf_fst p (a + 1) n
/-- the last place below a + n, from a on, where p holds: one more than it; a if there is none -/
def cf_lst (p : Nat → Bool) (a : Nat) : Nat → Nat
  | 0 => a
  | n + 1 => bif p (a + n) then a + n + 1 else cf_lst p a n

set_option maxHeartbeats 4000000 in
set_option maxRecDepth 100000 in
theorem s_tok_clear {h : cf_H} {P : Option Value → cf_H → Prop} (hR : cf_ok h) (k : P none (cf_pI h 2 3 0)) : RP k_tok_clear 0 [(0, .ref 2)] [] h P := by
  refine rp_aload_n (i := 0) d_tok_clear_0 rfl rfl ?_
  refine rp_iconst (v := 0) d_tok_clear_1 (by decide) ?_
  refine rp_putI d_tok_clear_2 f_tok_21 rfl rfl rfl ?_
  refine rp_return d_tok_clear_5 rfl ?_
  exact k
/-- Tokens.add -/
def f_add (h : cf_H) (a b c : Int32) : cf_H := cf_pI (cf_pA (cf_pA (cf_pA h 3 (h.1 2 3) a) 4 (h.1 2 3) b) 5 (h.1 2 3) c) 2 3 (h.1 2 3 + 1)
set_option maxHeartbeats 4000000 in
set_option maxRecDepth 100000 in
theorem s_tok_add {h : cf_H} {P : Option Value → cf_H → Prop} (hR : cf_ok h) {t : Nat} (ht : h.1 2 3 = nI t) (h40 : t < 40) {a b c : Int32} (k : P none (f_add h a b c)) : RP k_tok_add 0 [(0, .ref 2), (1, .int a), (2, .int b), (3, .int c)] [] h P := by
  refine rp_aload_n (i := 0) d_tok_add_0 rfl rfl ?_
  refine rp_getI d_tok_add_1 f_tok_21 rfl ?_
  refine rp_bipush (v := 40) d_tok_add_4 (by decide) ?_
  refine rp_icmp_ge (tgt := 49) d_tok_add_6 (by decide) (fun c6 => ?_) (fun c6 => ?_)
  · exact absurd c6 (by rw [ht]; exact (nI_ge (b := 40) h40 (by decide)))
  · refine rp_aload_n (i := 0) d_tok_add_9 rfl rfl ?_
    refine rp_getR d_tok_add_10 f_tok_9 rfl (hR _ _ _ rfl) ?_
    refine rp_aload_n (i := 0) d_tok_add_13 rfl rfl ?_
    refine rp_getI d_tok_add_14 f_tok_21 rfl ?_
    refine rp_iload_n (i := 1) d_tok_add_17 rfl rfl ?_
    refine rp_iastore d_tok_add_18 rfl (by show vp_in (h.1 2 3) 40; rw [ht]; exact vp_in_nI (by omega) (by omega)) ?_
    refine rp_aload_n (i := 0) d_tok_add_19 rfl rfl ?_
    refine rp_getR d_tok_add_20 f_tok_15 rfl (hR _ _ _ rfl) ?_
    refine rp_aload_n (i := 0) d_tok_add_23 rfl rfl ?_
    refine rp_getI d_tok_add_24 f_tok_21 rfl ?_
    refine rp_iload_n (i := 2) d_tok_add_27 rfl rfl ?_
    refine rp_iastore d_tok_add_28 rfl (by show vp_in (h.1 2 3) 40; rw [ht]; exact vp_in_nI (by omega) (by omega)) ?_
    refine rp_aload_n (i := 0) d_tok_add_29 rfl rfl ?_
    refine rp_getR d_tok_add_30 f_tok_18 rfl (hR _ _ _ rfl) ?_
    refine rp_aload_n (i := 0) d_tok_add_33 rfl rfl ?_
    refine rp_getI d_tok_add_34 f_tok_21 rfl ?_
    refine rp_iload_n (i := 3) d_tok_add_37 rfl rfl ?_
    refine rp_iastore d_tok_add_38 rfl (by show vp_in (h.1 2 3) 40; rw [ht]; exact vp_in_nI (by omega) (by omega)) ?_
    refine rp_aload_n (i := 0) d_tok_add_39 rfl rfl ?_
    refine rp_dup d_tok_add_40 rfl ?_
    refine rp_getI d_tok_add_41 f_tok_21 rfl ?_
    refine rp_iconst (v := 1) d_tok_add_44 (by decide) ?_
    refine rp_iadd d_tok_add_45 ?_
    refine rp_putI d_tok_add_46 f_tok_21 rfl rfl rfl ?_
    refine rp_return d_tok_add_49 rfl ?_
    exact k
/-- Tokens.typeAt, valueAt, detailAt -/
def f_at (h : cf_H) (o : Nat) (d i : Int32) : Int32 := if i < 0 then d else if h.1 2 3 ≤ i then d else h.2.2.2 o i.toNatClampNeg
theorem f_at_n {h : cf_H} {o : Nat} {d : Int32} {t j : Nat} (ht : h.1 2 3 = nI t) (h40 : t ≤ 40) (hj : j < 2 ^ 31) : f_at h o d (nI j) = if j < t then h.2.2.2 o j else d := by
  unfold f_at
  rw [if_neg (nI_pos hj), ht]
  by_cases e : j < t
  · rw [if_neg (nI_ge e (by omega)), if_pos e, nI_clamp hj]
  · rw [if_pos (nI_le (by omega) hj), if_neg e]
set_option maxHeartbeats 4000000 in
set_option maxRecDepth 100000 in
theorem s_tok_typeAt {h : cf_H} {P : Option Value → cf_H → Prop} (hR : cf_ok h) {t : Nat} (ht : h.1 2 3 = nI t) (h40 : t ≤ 40) {i : Int32} (k : P (some (.int (f_at h 3 (-1) i))) h) : RP k_tok_typeAt 0 [(0, .ref 2), (1, .int i)] [] h P := by
  refine rp_iload_n (i := 1) d_tok_typeAt_0 rfl rfl ?_
  refine rp_if_lt (tgt := 21) d_tok_typeAt_1 (by decide) (fun c1 => ?_) (fun c1 => ?_)
  · refine rp_iconst (v := (-1)) d_tok_typeAt_21 (by decide) ?_
    refine rp_ireturn (ty := .int) d_tok_typeAt_22 rfl rfl ?_
    first | (rw [f_at, if_pos c1] at k; exact k) | (rw [f_at, if_neg c1, if_pos c9] at k; exact k) | (rw [f_at, if_neg c1, if_neg c9] at k; exact k)
  · refine rp_iload_n (i := 1) d_tok_typeAt_4 rfl rfl ?_
    refine rp_aload_n (i := 0) d_tok_typeAt_5 rfl rfl ?_
    refine rp_getI d_tok_typeAt_6 f_tok_21 rfl ?_
    refine rp_icmp_ge (tgt := 21) d_tok_typeAt_9 (by decide) (fun c9 => ?_) (fun c9 => ?_)
    · refine rp_iconst (v := (-1)) d_tok_typeAt_21 (by decide) ?_
      refine rp_ireturn (ty := .int) d_tok_typeAt_22 rfl rfl ?_
      first | (rw [f_at, if_pos c1] at k; exact k) | (rw [f_at, if_neg c1, if_pos c9] at k; exact k) | (rw [f_at, if_neg c1, if_neg c9] at k; exact k)
    · refine rp_aload_n (i := 0) d_tok_typeAt_12 rfl rfl ?_
      refine rp_getR d_tok_typeAt_13 f_tok_9 rfl (hR _ _ _ rfl) ?_
      refine rp_iload_n (i := 1) d_tok_typeAt_16 rfl rfl ?_
      refine rp_iaload d_tok_typeAt_17 rfl (cf_vin c1 (by rw [← ht]; exact c9) h40 (by omega)) ?_
      refine rp_goto (tgt := 22) d_tok_typeAt_18 (by decide) ?_
      refine rp_ireturn (ty := .int) d_tok_typeAt_22 rfl rfl ?_
      first | (rw [f_at, if_pos c1] at k; exact k) | (rw [f_at, if_neg c1, if_pos c9] at k; exact k) | (rw [f_at, if_neg c1, if_neg c9] at k; exact k)
set_option maxHeartbeats 4000000 in
set_option maxRecDepth 100000 in
theorem s_tok_valueAt {h : cf_H} {P : Option Value → cf_H → Prop} (hR : cf_ok h) {t : Nat} (ht : h.1 2 3 = nI t) (h40 : t ≤ 40) {i : Int32} (k : P (some (.int (f_at h 4 (0) i))) h) : RP k_tok_valueAt 0 [(0, .ref 2), (1, .int i)] [] h P := by
  refine rp_iload_n (i := 1) d_tok_valueAt_0 rfl rfl ?_
  refine rp_if_lt (tgt := 21) d_tok_valueAt_1 (by decide) (fun c1 => ?_) (fun c1 => ?_)
  · refine rp_iconst (v := 0) d_tok_valueAt_21 (by decide) ?_
    refine rp_ireturn (ty := .int) d_tok_valueAt_22 rfl rfl ?_
    first | (rw [f_at, if_pos c1] at k; exact k) | (rw [f_at, if_neg c1, if_pos c9] at k; exact k) | (rw [f_at, if_neg c1, if_neg c9] at k; exact k)
  · refine rp_iload_n (i := 1) d_tok_valueAt_4 rfl rfl ?_
    refine rp_aload_n (i := 0) d_tok_valueAt_5 rfl rfl ?_
    refine rp_getI d_tok_valueAt_6 f_tok_21 rfl ?_
    refine rp_icmp_ge (tgt := 21) d_tok_valueAt_9 (by decide) (fun c9 => ?_) (fun c9 => ?_)
    · refine rp_iconst (v := 0) d_tok_valueAt_21 (by decide) ?_
      refine rp_ireturn (ty := .int) d_tok_valueAt_22 rfl rfl ?_
      first | (rw [f_at, if_pos c1] at k; exact k) | (rw [f_at, if_neg c1, if_pos c9] at k; exact k) | (rw [f_at, if_neg c1, if_neg c9] at k; exact k)
    · refine rp_aload_n (i := 0) d_tok_valueAt_12 rfl rfl ?_
      refine rp_getR d_tok_valueAt_13 f_tok_15 rfl (hR _ _ _ rfl) ?_
      refine rp_iload_n (i := 1) d_tok_valueAt_16 rfl rfl ?_
      refine rp_iaload d_tok_valueAt_17 rfl (cf_vin c1 (by rw [← ht]; exact c9) h40 (by omega)) ?_
      refine rp_goto (tgt := 22) d_tok_valueAt_18 (by decide) ?_
      refine rp_ireturn (ty := .int) d_tok_valueAt_22 rfl rfl ?_
      first | (rw [f_at, if_pos c1] at k; exact k) | (rw [f_at, if_neg c1, if_pos c9] at k; exact k) | (rw [f_at, if_neg c1, if_neg c9] at k; exact k)
set_option maxHeartbeats 4000000 in
set_option maxRecDepth 100000 in
theorem s_tok_detailAt {h : cf_H} {P : Option Value → cf_H → Prop} (hR : cf_ok h) {t : Nat} (ht : h.1 2 3 = nI t) (h40 : t ≤ 40) {i : Int32} (k : P (some (.int (f_at h 5 (0) i))) h) : RP k_tok_detailAt 0 [(0, .ref 2), (1, .int i)] [] h P := by
  refine rp_iload_n (i := 1) d_tok_detailAt_0 rfl rfl ?_
  refine rp_if_lt (tgt := 21) d_tok_detailAt_1 (by decide) (fun c1 => ?_) (fun c1 => ?_)
  · refine rp_iconst (v := 0) d_tok_detailAt_21 (by decide) ?_
    refine rp_ireturn (ty := .int) d_tok_detailAt_22 rfl rfl ?_
    first | (rw [f_at, if_pos c1] at k; exact k) | (rw [f_at, if_neg c1, if_pos c9] at k; exact k) | (rw [f_at, if_neg c1, if_neg c9] at k; exact k)
  · refine rp_iload_n (i := 1) d_tok_detailAt_4 rfl rfl ?_
    refine rp_aload_n (i := 0) d_tok_detailAt_5 rfl rfl ?_
    refine rp_getI d_tok_detailAt_6 f_tok_21 rfl ?_
    refine rp_icmp_ge (tgt := 21) d_tok_detailAt_9 (by decide) (fun c9 => ?_) (fun c9 => ?_)
    · refine rp_iconst (v := 0) d_tok_detailAt_21 (by decide) ?_
      refine rp_ireturn (ty := .int) d_tok_detailAt_22 rfl rfl ?_
      first | (rw [f_at, if_pos c1] at k; exact k) | (rw [f_at, if_neg c1, if_pos c9] at k; exact k) | (rw [f_at, if_neg c1, if_neg c9] at k; exact k)
    · refine rp_aload_n (i := 0) d_tok_detailAt_12 rfl rfl ?_
      refine rp_getR d_tok_detailAt_13 f_tok_18 rfl (hR _ _ _ rfl) ?_
      refine rp_iload_n (i := 1) d_tok_detailAt_16 rfl rfl ?_
      refine rp_iaload d_tok_detailAt_17 rfl (cf_vin c1 (by rw [← ht]; exact c9) h40 (by omega)) ?_
      refine rp_goto (tgt := 22) d_tok_detailAt_18 (by decide) ?_
      refine rp_ireturn (ty := .int) d_tok_detailAt_22 rfl rfl ?_
      first | (rw [f_at, if_pos c1] at k; exact k) | (rw [f_at, if_neg c1, if_pos c9] at k; exact k) | (rw [f_at, if_neg c1, if_neg c9] at k; exact k)
set_option maxHeartbeats 4000000 in
set_option maxRecDepth 100000 in
theorem l_tok_count {h : cf_H} {P : Option Value → cf_H → Prop} (hR : cf_ok h) {t : Nat} (ht : h.1 2 3 = nI t) (h40 : t ≤ 40) {ty : Int32} {b : Nat} (hb : b < 2 ^ 30) : ∀ (n a q : Nat), a + n = b → (k : P (some (.int (nI (q + cf_cnt (fun j => decide (f_at h 3 (-1) (nI j) = ty)) a n)))) h) → RP k_tok_count 6 [(0, .ref 2), (1, .int ty), (3, .int (nI b)), (4, .int (nI q)), (5, .int (nI a))] [] h P := by
  intro n
  induction n with
  | zero =>
    intro a q e k
    have e : a = b := e
    subst e
    refine rp_iload (i := 5) d_tok_count_6 rfl ?_
    refine rp_iload_n (i := 3) d_tok_count_8 rfl rfl ?_
    refine rp_icmp_ge (tgt := 31) d_tok_count_9 (by decide) (fun c9 => ?_) (fun c9 => ?_)
    · refine rp_iload (i := 4) d_tok_count_31 rfl ?_
      refine rp_ireturn (ty := .int) d_tok_count_33 rfl rfl ?_
      exact k
    · exact absurd (nI_le (Nat.le_refl _) (by omega)) c9
  | succ n ih =>
    intro a q e k
    have hlt : a < b := by omega
    refine rp_iload (i := 5) d_tok_count_6 rfl ?_
    refine rp_iload_n (i := 3) d_tok_count_8 rfl rfl ?_
    refine rp_icmp_ge (tgt := 31) d_tok_count_9 (by decide) (fun c9 => ?_) (fun c9 => ?_)
    · exact absurd c9 (nI_ge hlt (by omega))
    · refine rp_aload_n (i := 0) d_tok_count_12 rfl rfl ?_
      refine rp_iload (i := 5) d_tok_count_13 rfl ?_
      refine rp_callV1 d_tok_count_15 q_tok_count_25 (Or.inl ⟨_, _, _, rfl, rfl⟩) (Nat.le_of_ble_eq_true rfl) (Nat.le_of_ble_eq_true rfl) ?_
      refine s_tok_typeAt hR ht h40 ?_
      refine rp_iload_n (i := 1) d_tok_count_18 rfl rfl ?_
      refine rp_icmp_ne (tgt := 25) d_tok_count_19 (by decide) (fun c19 => ?_) (fun c19 => ?_)
      · refine rp_iinc (i := 5) (y := 1) d_tok_count_25 rfl (by decide) rfl (Nat.le_of_ble_eq_true rfl) ?_
        refine rp_goto (tgt := 6) d_tok_count_28 (by decide) ?_
        first | (refine rp_lv [(0, .ref 2), (1, .int ty), (3, .int (nI b)), (4, .int (nI q)), (5, .int (nI (a + 1)))] (by simp only [nI_succ]; rfl) ?_; refine ih (a + 1) q (by omega) ?_; simpa [cf_cnt, c19] using k) | (refine rp_lv [(0, .ref 2), (1, .int ty), (3, .int (nI b)), (4, .int (nI (q + 1))), (5, .int (nI (a + 1)))] (by simp only [nI_succ]; rfl) ?_; refine ih (a + 1) (q + 1) (by omega) ?_; simpa [cf_cnt, c19, Nat.add_assoc] using k)
      · refine rp_iinc (i := 4) (y := 1) d_tok_count_22 rfl (by decide) rfl (Nat.le_of_ble_eq_true rfl) ?_
        refine rp_iinc (i := 5) (y := 1) d_tok_count_25 rfl (by decide) rfl (Nat.le_of_ble_eq_true rfl) ?_
        refine rp_goto (tgt := 6) d_tok_count_28 (by decide) ?_
        first | (refine rp_lv [(0, .ref 2), (1, .int ty), (3, .int (nI b)), (4, .int (nI q)), (5, .int (nI (a + 1)))] (by simp only [nI_succ]; rfl) ?_; refine ih (a + 1) q (by omega) ?_; simpa [cf_cnt, c19] using k) | (refine rp_lv [(0, .ref 2), (1, .int ty), (3, .int (nI b)), (4, .int (nI (q + 1))), (5, .int (nI (a + 1)))] (by simp only [nI_succ]; rfl) ?_; refine ih (a + 1) (q + 1) (by omega) ?_; simpa [cf_cnt, c19, Nat.add_assoc] using k)
set_option maxHeartbeats 4000000 in
set_option maxRecDepth 100000 in
theorem s_tok_count {h : cf_H} {P : Option Value → cf_H → Prop} (hR : cf_ok h) {t : Nat} (ht : h.1 2 3 = nI t) (h40 : t ≤ 40) {ty : Int32} {a b : Nat} (hab : a ≤ b) (hb : b < 2 ^ 30) (k : P (some (.int (nI (cf_cnt (fun j => decide (f_at h 3 (-1) (nI j) = ty)) a (b - a))))) h) : RP k_tok_count 0 [(0, .ref 2), (1, .int ty), (2, .int (nI a)), (3, .int (nI b))] [] h P := by
  refine rp_iconst (v := 0) d_tok_count_0 (by decide) ?_
  refine rp_istore (i := 4) d_tok_count_1 rfl (Nat.le_of_ble_eq_true rfl) ?_
  refine rp_iload_n (i := 2) d_tok_count_3 rfl rfl ?_
  refine rp_istore (i := 5) d_tok_count_4 rfl (Nat.le_of_ble_eq_true rfl) ?_
  refine rp_lv [(0, .ref 2), (1, .int ty), (3, .int (nI b)), (4, .int (nI 0)), (5, .int (nI a))] rfl ?_
  exact l_tok_count hR ht h40 hb (b - a) a 0 (by omega) (by rw [Nat.zero_add]; exact k)
end
section
/-! THE REFERENCE: scanning -/
def cf_b (b : Bool) : Int32 := bif b then 1 else 0
def r_at (c : Nat → Int32) (n j : Nat) : Int32 := if j < n then c j else 0
abbrev r_g (h : cf_H) (n : Nat) : Nat → Int32 := r_at (h.2.2.2 20) n
def r_cmp (g : Nat → Int32) (j : Nat) : Int32 := if g j = 60 then (if g (j + 1) = 61 then 2 else if g (j + 1) = 62 then 6 else 1) else if g j = 62 then (if g (j + 1) = 61 then 4 else 3) else if g j = 61 then 5 else 0
def r_dg (x : Int32) : Bool := !decide (x < 48) && !decide (57 < x)
def r_run (g : Nat → Int32) : Nat → Nat → Nat
  | _, 0 => 0
  | q, k + 1 => bif r_dg (g q) then 1 + r_run g (q + 1) k else 0
def r_val (g : Nat → Int32) : Nat → Nat → Int32 → Int32
  | _, 0, a => a
  | q, m + 1, a => r_val g (q + 1) m (10 * a + g q - 48)
theorem r_run_le (g : Nat → Int32) : ∀ k q, r_run g q k ≤ k := by
  intro k
  induction k with
  | zero => intro q; exact Nat.le_refl _
  | succ k ih =>
    intro q
    unfold r_run
    cases r_dg (g q) with
    | false => exact Nat.zero_le _
    | true => have := ih (q + 1); show 1 + _ ≤ _; omega
abbrev r_T : Type := Int32 × Int32 × Int32 × Nat
def r_meet (h : cf_H) (a b c d : Int32) : cf_H := cf_pI (cf_pI (cf_pI (cf_pI h 19 11 a) 19 12 b) 19 13 c) 19 10 d
def r_put (h : cf_H) (t : r_T) : cf_H := if t.1 = 0 then h else r_meet h t.1 t.2.1 t.2.2.1 (nI t.2.2.2)
def r_brk2 (g : Nat → Int32) (how : Int32) (q0 : Nat) : r_T :=
  if g q0 = 45 then (if 1 ≤ r_run g (q0 + 1) 7 ∧ r_run g (q0 + 1) 7 ≤ 6 ∧ g (q0 + 1 + r_run g (q0 + 1) 7) = 93 then (7, how, - r_val g (q0 + 1) (r_run g (q0 + 1) 7) 0, q0 + 1 + r_run g (q0 + 1) 7 + 1) else (0, 0, 0, 0))
  else (if 1 ≤ r_run g q0 7 ∧ r_run g q0 7 ≤ 6 ∧ g (q0 + r_run g q0 7) = 93 then (7, how, r_val g q0 (r_run g q0 7) 0, q0 + r_run g q0 7 + 1) else (0, 0, 0, 0))
def r_brk (g : Nat → Int32) (p : Nat) : r_T :=
  if (g (p + 1) = 104 ∨ g (p + 1) = 109 ∨ g (p + 1) = 115) ∧ g (p + 2) = 93 then (8, g (p + 1), 0, p + 3)
  else if r_cmp g (p + 1) = 0 then (0, 0, 0, 0)
  else r_brk2 g (r_cmp g (p + 1)) (if r_cmp g (p + 1) = 2 ∨ r_cmp g (p + 1) = 4 ∨ r_cmp g (p + 1) = 6 then p + 3 else p + 2)

set_option maxHeartbeats 4000000 in
set_option maxRecDepth 100000 in
theorem s_mod_at {h : cf_H} {P : Option Value → cf_H → Prop} (hR : cf_ok h) {n : Nat} (hn : h.1 19 0 = nI n) (h40 : n ≤ 40) {x : Int32} {j : Nat} (hx : x = nI j) (hj : j < 2 ^ 30) (k : P (some (.int (r_g h n j))) h) : RP k_mod_at 0 [(0, .ref 19), (1, .int x)] [] h P := by
  subst hx
  rcases Nat.lt_or_ge j n with hlt | hge
  · rw [r_g, r_at, if_pos hlt] at k
    refine rp_iload_n (i := 1) d_mod_at_0 rfl rfl ?_
    refine rp_aload_n (i := 0) d_mod_at_1 rfl rfl ?_
    refine rp_getI d_mod_at_2 f_mod_36 rfl ?_
    refine rp_icmp_ge (tgt := 17) d_mod_at_5 (by decide) (fun c5 => ?_) (fun c5 => ?_)
    · exact absurd c5 (by rw [hn]; exact nI_ge hlt (by omega))
    · refine rp_aload_n (i := 0) d_mod_at_8 rfl rfl ?_
      refine rp_getR d_mod_at_9 f_mod_7 rfl (hR _ _ _ rfl) ?_
      refine rp_iload_n (i := 1) d_mod_at_12 rfl rfl ?_
      refine rp_iaload d_mod_at_13 rfl (vp_in_nI (by omega) (by omega)) ?_
      refine rp_goto (tgt := 18) d_mod_at_14 (by decide) ?_
      refine rp_ireturn (ty := .int) d_mod_at_18 rfl rfl ?_
      rw [nI_clamp (by omega)]; exact k
  · rw [r_g, r_at, if_neg (by omega)] at k
    refine rp_iload_n (i := 1) d_mod_at_0 rfl rfl ?_
    refine rp_aload_n (i := 0) d_mod_at_1 rfl rfl ?_
    refine rp_getI d_mod_at_2 f_mod_36 rfl ?_
    refine rp_icmp_ge (tgt := 17) d_mod_at_5 (by decide) (fun c5 => ?_) (fun c5 => ?_)
    · refine rp_iconst (v := 0) d_mod_at_17 (by decide) ?_
      refine rp_ireturn (ty := .int) d_mod_at_18 rfl rfl ?_
      exact k
    · exact absurd (by rw [hn]; exact nI_le hge (by omega)) c5
set_option maxHeartbeats 4000000 in
set_option maxRecDepth 100000 in
theorem s_mod_meet {h : cf_H} {P : Option Value → cf_H → Prop} {a b c d : Int32} (k : P none (r_meet h a b c d)) : RP k_mod_meet 0 [(0, .ref 19), (1, .int a), (2, .int b), (3, .int c), (4, .int d)] [] h P := by
  refine rp_aload_n (i := 0) d_mod_meet_0 rfl rfl ?_
  refine rp_iload_n (i := 1) d_mod_meet_1 rfl rfl ?_
  refine rp_putI d_mod_meet_2 f_mod_39 rfl rfl rfl ?_
  refine rp_aload_n (i := 0) d_mod_meet_5 rfl rfl ?_
  refine rp_iload_n (i := 2) d_mod_meet_6 rfl rfl ?_
  refine rp_putI d_mod_meet_7 f_mod_42 rfl rfl rfl ?_
  refine rp_aload_n (i := 0) d_mod_meet_10 rfl rfl ?_
  refine rp_iload_n (i := 3) d_mod_meet_11 rfl rfl ?_
  refine rp_putI d_mod_meet_12 f_mod_45 rfl rfl rfl ?_
  refine rp_aload_n (i := 0) d_mod_meet_15 rfl rfl ?_
  refine rp_iload (i := 4) d_mod_meet_16 rfl ?_
  refine rp_putI d_mod_meet_18 f_mod_48 rfl rfl rfl ?_
  refine rp_return d_mod_meet_21 rfl ?_
  exact k
set_option maxHeartbeats 4000000 in
set_option maxRecDepth 100000 in
theorem s_mod_digit {h : cf_H} {P : Option Value → cf_H → Prop} {x : Int32} (k : P (some (.int (cf_b (r_dg x)))) h) : RP k_mod_digit 0 [(0, .int x)] [] h P := by
  refine rp_iload_n (i := 0) d_mod_digit_0 rfl rfl ?_
  refine rp_bipush (v := 48) d_mod_digit_1 (by decide) ?_
  refine rp_icmp_lt (tgt := 16) d_mod_digit_3 (by decide) (fun c3 => ?_) (fun c3 => ?_)
  · refine rp_iconst (v := 0) d_mod_digit_16 (by decide) ?_
    refine rp_ireturn (ty := .boolean) d_mod_digit_17 rfl (by first | rfl | decide | assumption) ?_
    first | (simpa [cf_b, r_dg, c3, c9] using k) | (simpa [cf_b, r_dg, c3] using k)
  · refine rp_iload_n (i := 0) d_mod_digit_6 rfl rfl ?_
    refine rp_bipush (v := 57) d_mod_digit_7 (by decide) ?_
    refine rp_icmp_gt (tgt := 16) d_mod_digit_9 (by decide) (fun c9 => ?_) (fun c9 => ?_)
    · refine rp_iconst (v := 0) d_mod_digit_16 (by decide) ?_
      refine rp_ireturn (ty := .boolean) d_mod_digit_17 rfl (by first | rfl | decide | assumption) ?_
      first | (simpa [cf_b, r_dg, c3, c9] using k) | (simpa [cf_b, r_dg, c3] using k)
    · refine rp_iconst (v := 1) d_mod_digit_12 (by decide) ?_
      refine rp_goto (tgt := 17) d_mod_digit_13 (by decide) ?_
      refine rp_ireturn (ty := .boolean) d_mod_digit_17 rfl (by first | rfl | decide | assumption) ?_
      first | (simpa [cf_b, r_dg, c3, c9] using k) | (simpa [cf_b, r_dg, c3] using k)
set_option maxHeartbeats 4000000 in
set_option maxRecDepth 100000 in
theorem s_mod_comparison {h : cf_H} {P : Option Value → cf_H → Prop} (hR : cf_ok h) {n : Nat} (hn : h.1 19 0 = nI n) (h40 : n ≤ 40) {x : Int32} {j : Nat} (hx : x = nI j) (hj : j < 2 ^ 29) (k : P (some (.int (r_cmp (r_g h n) j))) h) : RP k_mod_comparison 0 [(0, .ref 19), (1, .int x)] [] h P := by
  subst hx
  refine rp_aload_n (i := 0) d_mod_comparison_0 rfl rfl ?_
  refine rp_iload_n (i := 1) d_mod_comparison_1 rfl rfl ?_
  refine rp_callV1 d_mod_comparison_2 q_mod_comparison_51 (Or.inl ⟨_, _, _, rfl, rfl⟩) (Nat.le_of_ble_eq_true rfl) (Nat.le_of_ble_eq_true rfl) ?_
  refine s_mod_at (j := j) hR hn h40 (rfl) (by omega) ?_
  refine rp_istore_n (i := 2) d_mod_comparison_5 rfl rfl (Nat.le_of_ble_eq_true rfl) ?_
  refine rp_aload_n (i := 0) d_mod_comparison_6 rfl rfl ?_
  refine rp_iload_n (i := 1) d_mod_comparison_7 rfl rfl ?_
  refine rp_iconst (v := 1) d_mod_comparison_8 (by decide) ?_
  refine rp_iadd d_mod_comparison_9 ?_
  refine rp_callV1 d_mod_comparison_10 q_mod_comparison_51 (Or.inl ⟨_, _, _, rfl, rfl⟩) (Nat.le_of_ble_eq_true rfl) (Nat.le_of_ble_eq_true rfl) ?_
  refine s_mod_at (j := j + 1) hR hn h40 (nI_add j 1) (by omega) ?_
  refine rp_istore_n (i := 3) d_mod_comparison_13 rfl rfl (Nat.le_of_ble_eq_true rfl) ?_
  refine rp_iload_n (i := 2) d_mod_comparison_14 rfl rfl ?_
  refine rp_bipush (v := 60) d_mod_comparison_15 (by decide) ?_
  refine rp_icmp_ne (tgt := 43) d_mod_comparison_17 (by decide) (fun c17 => ?_) (fun c17 => ?_)
  · refine rp_iload_n (i := 2) d_mod_comparison_43 rfl rfl ?_
    refine rp_bipush (v := 62) d_mod_comparison_44 (by decide) ?_
    refine rp_icmp_ne (tgt := 61) d_mod_comparison_46 (by decide) (fun c46 => ?_) (fun c46 => ?_)
    · refine rp_iload_n (i := 2) d_mod_comparison_61 rfl rfl ?_
      refine rp_bipush (v := 61) d_mod_comparison_62 (by decide) ?_
      refine rp_icmp_ne (tgt := 71) d_mod_comparison_64 (by decide) (fun c64 => ?_) (fun c64 => ?_)
      · refine rp_iconst (v := 0) d_mod_comparison_71 (by decide) ?_
        refine rp_ireturn (ty := .int) d_mod_comparison_72 rfl rfl ?_
        simpa [r_cmp, *] using k
      · refine rp_iconst (v := 5) d_mod_comparison_67 (by decide) ?_
        refine rp_goto (tgt := 72) d_mod_comparison_68 (by decide) ?_
        refine rp_ireturn (ty := .int) d_mod_comparison_72 rfl rfl ?_
        simpa [r_cmp, *] using k
    · refine rp_iload_n (i := 3) d_mod_comparison_49 rfl rfl ?_
      refine rp_bipush (v := 61) d_mod_comparison_50 (by decide) ?_
      refine rp_icmp_ne (tgt := 59) d_mod_comparison_52 (by decide) (fun c52 => ?_) (fun c52 => ?_)
      · refine rp_iconst (v := 3) d_mod_comparison_59 (by decide) ?_
        refine rp_ireturn (ty := .int) d_mod_comparison_60 rfl rfl ?_
        simpa [r_cmp, *] using k
      · refine rp_iconst (v := 4) d_mod_comparison_55 (by decide) ?_
        refine rp_goto (tgt := 60) d_mod_comparison_56 (by decide) ?_
        refine rp_ireturn (ty := .int) d_mod_comparison_60 rfl rfl ?_
        simpa [r_cmp, *] using k
  · refine rp_iload_n (i := 3) d_mod_comparison_20 rfl rfl ?_
    refine rp_bipush (v := 61) d_mod_comparison_21 (by decide) ?_
    refine rp_icmp_ne (tgt := 30) d_mod_comparison_23 (by decide) (fun c23 => ?_) (fun c23 => ?_)
    · refine rp_iload_n (i := 3) d_mod_comparison_30 rfl rfl ?_
      refine rp_bipush (v := 62) d_mod_comparison_31 (by decide) ?_
      refine rp_icmp_ne (tgt := 41) d_mod_comparison_33 (by decide) (fun c33 => ?_) (fun c33 => ?_)
      · refine rp_iconst (v := 1) d_mod_comparison_41 (by decide) ?_
        refine rp_ireturn (ty := .int) d_mod_comparison_42 rfl rfl ?_
        simpa [r_cmp, *] using k
      · refine rp_bipush (v := 6) d_mod_comparison_36 (by decide) ?_
        refine rp_goto (tgt := 42) d_mod_comparison_38 (by decide) ?_
        refine rp_ireturn (ty := .int) d_mod_comparison_42 rfl rfl ?_
        simpa [r_cmp, *] using k
    · refine rp_iconst (v := 2) d_mod_comparison_26 (by decide) ?_
      refine rp_goto (tgt := 42) d_mod_comparison_27 (by decide) ?_
      refine rp_ireturn (ty := .int) d_mod_comparison_42 rfl rfl ?_
      simpa [r_cmp, *] using k
set_option maxHeartbeats 4000000 in
set_option maxRecDepth 100000 in
theorem l_mod_bracket {h : cf_H} {P : Option Value → cf_H → Prop} (hR : cf_ok h) {n : Nat} (hn : h.1 19 0 = nI n) (h40 : n ≤ 40) {p : Nat} {how mi : Int32} : ∀ (r q d : Nat) (v : Int32), d + r = 7 → q + r < 2 ^ 28 → (k : RP k_mod_bracket 175 [(0, .ref 19), (1, .int (nI p)), (3, .int how), (4, .int (nI (q + r_run (r_g h n) q r))), (5, .int mi), (6, .int (r_val (r_g h n) q (r_run (r_g h n) q r) v)), (7, .int (nI (d + r_run (r_g h n) q r)))] [] h P) → RP k_mod_bracket 130 [(0, .ref 19), (1, .int (nI p)), (3, .int how), (4, .int (nI q)), (5, .int mi), (6, .int v), (7, .int (nI d))] [] h P := by
  intro r
  induction r with
  | zero =>
    intro q d v e hq k
    have e : d = 7 := e
    subst e
    refine rp_aload_n (i := 0) d_mod_bracket_130 rfl rfl ?_
    refine rp_iload (i := 4) d_mod_bracket_131 rfl ?_
    refine rp_callV1 d_mod_bracket_133 q_mod_bracket_51 (Or.inl ⟨_, _, _, rfl, rfl⟩) (Nat.le_of_ble_eq_true rfl) (Nat.le_of_ble_eq_true rfl) ?_
    refine s_mod_at (j := q) hR hn h40 (rfl) (by omega) ?_
    refine rp_callS1 d_mod_bracket_136 q_mod_bracket_62 (Nat.le_of_ble_eq_true rfl) (Nat.le_of_ble_eq_true rfl) ?_
    refine s_mod_digit ?_
    refine rp_if_eq (tgt := 175) d_mod_bracket_139 (by decide) (fun c139 => ?_) (fun c139 => ?_)
    · exact rp_lv _ rfl k
    · refine rp_iload (i := 7) d_mod_bracket_142 rfl ?_
      refine rp_bipush (v := 7) d_mod_bracket_144 (by decide) ?_
      refine rp_icmp_ge (tgt := 175) d_mod_bracket_146 (by decide) (fun c146 => ?_) (fun c146 => ?_)
      · exact rp_lv _ rfl k
      · exact absurd (by decide) c146
  | succ r ih =>
    intro q d v e hq k
    refine rp_aload_n (i := 0) d_mod_bracket_130 rfl rfl ?_
    refine rp_iload (i := 4) d_mod_bracket_131 rfl ?_
    refine rp_callV1 d_mod_bracket_133 q_mod_bracket_51 (Or.inl ⟨_, _, _, rfl, rfl⟩) (Nat.le_of_ble_eq_true rfl) (Nat.le_of_ble_eq_true rfl) ?_
    refine s_mod_at (j := q) hR hn h40 (rfl) (by omega) ?_
    refine rp_callS1 d_mod_bracket_136 q_mod_bracket_62 (Nat.le_of_ble_eq_true rfl) (Nat.le_of_ble_eq_true rfl) ?_
    refine s_mod_digit ?_
    refine rp_if_eq (tgt := 175) d_mod_bracket_139 (by decide) (fun c139 => ?_) (fun c139 => ?_)
    · have hd : r_dg (r_g h n q) = false := by cases e2 : r_dg (r_g h n q) with | false => rfl | true => rw [e2] at c139; exact absurd c139 (by decide)
      rw [show r_run (r_g h n) q (r + 1) = 0 by rw [r_run, hd]; rfl] at k
      exact rp_lv _ rfl k
    · refine rp_iload (i := 7) d_mod_bracket_142 rfl ?_
      refine rp_bipush (v := 7) d_mod_bracket_144 (by decide) ?_
      refine rp_icmp_ge (tgt := 175) d_mod_bracket_146 (by decide) (fun c146 => ?_) (fun c146 => ?_)
      · exact absurd c146 (nI_ge (b := 7) (a := d) (by omega) (by decide))
      · refine rp_bipush (v := 10) d_mod_bracket_149 (by decide) ?_
        refine rp_iload (i := 6) d_mod_bracket_151 rfl ?_
        refine rp_imul d_mod_bracket_153 ?_
        refine rp_aload_n (i := 0) d_mod_bracket_154 rfl rfl ?_
        refine rp_iload (i := 4) d_mod_bracket_155 rfl ?_
        refine rp_callV1 d_mod_bracket_157 q_mod_bracket_51 (Or.inl ⟨_, _, _, rfl, rfl⟩) (Nat.le_of_ble_eq_true rfl) (Nat.le_of_ble_eq_true rfl) ?_
        refine s_mod_at (j := q) hR hn h40 (rfl) (by omega) ?_
        refine rp_iadd d_mod_bracket_160 ?_
        refine rp_bipush (v := 48) d_mod_bracket_161 (by decide) ?_
        refine rp_isub d_mod_bracket_163 ?_
        refine rp_istore (i := 6) d_mod_bracket_164 rfl (Nat.le_of_ble_eq_true rfl) ?_
        refine rp_iinc (i := 4) (y := 1) d_mod_bracket_166 rfl (by decide) rfl (Nat.le_of_ble_eq_true rfl) ?_
        refine rp_iinc (i := 7) (y := 1) d_mod_bracket_169 rfl (by decide) rfl (Nat.le_of_ble_eq_true rfl) ?_
        refine rp_goto (tgt := 130) d_mod_bracket_172 (by decide) ?_
        have hd : r_dg (r_g h n q) = true := by cases e2 : r_dg (r_g h n q) with | true => rfl | false => rw [e2] at c139; exact absurd rfl c139
        rw [show r_run (r_g h n) q (r + 1) = 1 + r_run (r_g h n) (q + 1) r by rw [r_run, hd]; rfl, Nat.add_comm 1, r_val] at k
        refine rp_lv [(0, .ref 19), (1, .int (nI p)), (3, .int how), (4, .int (nI (q + 1))), (5, .int mi), (6, .int (10 * v + r_g h n q - 48)), (7, .int (nI (d + 1)))] (by simp only [nI_succ]; rfl) ?_
        refine ih (q + 1) (d + 1) _ (by omega) (by omega) ?_
        rw [show q + 1 + r_run (r_g h n) (q + 1) r = q + (r_run (r_g h n) (q + 1) r + 1) by omega, show d + 1 + r_run (r_g h n) (q + 1) r = d + (r_run (r_g h n) (q + 1) r + 1) by omega]
        exact k
theorem r_put_0 (h : cf_H) (a b : Int32) (c : Nat) : r_put h (0, a, b, c) = h := by simp [r_put]
theorem r_put_1 (h : cf_H) {w a b : Int32} {c : Nat} (hw : ¬ w = 0) : r_put h (w, a, b, c) = r_meet h w a b (nI c) := by simp [r_put, hw]
set_option maxHeartbeats 4000000 in
set_option maxRecDepth 100000 in
theorem t_mod_bracket1 {h : cf_H} {P : Option Value → cf_H → Prop} (hR : cf_ok h) {n : Nat} (hn : h.1 19 0 = nI n) (h40 : n ≤ 40) {p q m : Nat} {how v : Int32} (hq : q < 2 ^ 28) (hm : m ≤ 7) (k : P none (r_put h (if 1 ≤ m ∧ m ≤ 6 ∧ r_g h n (q + m) = 93 then (7, how, -v, q + m + 1) else (0, 0, 0, 0)))) : RP k_mod_bracket 175 [(0, .ref 19), (1, .int (nI p)), (3, .int how), (4, .int (nI (q + m))), (5, .int 1), (6, .int v), (7, .int (nI m))] [] h P := by
  refine rp_iload (i := 7) d_mod_bracket_175 rfl ?_
  refine rp_iconst (v := 1) d_mod_bracket_177 (by decide) ?_
  refine rp_icmp_lt (tgt := 223) d_mod_bracket_178 (by decide) (fun c178 => ?_) (fun c178 => ?_)
  · refine rp_return d_mod_bracket_223 rfl ?_
    first
      | (rw [if_neg (fun z => absurd c178 (nI_nlt (a := m) (b := 1) z.1 (by omega))), r_put_0] at k; exact k)
      | (rw [if_neg (fun z => absurd c185 (nI_nlt (a := 6) (b := m) z.2.1 (by omega))), r_put_0] at k; exact k)
      | (rw [if_neg (fun z => c196 z.2.2), r_put_0] at k; exact k)
      | (rw [if_pos ⟨Nat.not_lt.mp (fun z => c178 (nI_lt (a := m) (b := 1) z (by omega))), Nat.not_lt.mp (fun z => c185 (nI_lt (a := 6) (b := m) z (by omega))), c196⟩, r_put_1 _ (by decide), nI_succ] at k; exact k)
  · refine rp_iload (i := 7) d_mod_bracket_181 rfl ?_
    refine rp_bipush (v := 6) d_mod_bracket_183 (by decide) ?_
    refine rp_icmp_gt (tgt := 223) d_mod_bracket_185 (by decide) (fun c185 => ?_) (fun c185 => ?_)
    · refine rp_return d_mod_bracket_223 rfl ?_
      first
        | (rw [if_neg (fun z => absurd c178 (nI_nlt (a := m) (b := 1) z.1 (by omega))), r_put_0] at k; exact k)
        | (rw [if_neg (fun z => absurd c185 (nI_nlt (a := 6) (b := m) z.2.1 (by omega))), r_put_0] at k; exact k)
        | (rw [if_neg (fun z => c196 z.2.2), r_put_0] at k; exact k)
        | (rw [if_pos ⟨Nat.not_lt.mp (fun z => c178 (nI_lt (a := m) (b := 1) z (by omega))), Nat.not_lt.mp (fun z => c185 (nI_lt (a := 6) (b := m) z (by omega))), c196⟩, r_put_1 _ (by decide), nI_succ] at k; exact k)
    · refine rp_aload_n (i := 0) d_mod_bracket_188 rfl rfl ?_
      refine rp_iload (i := 4) d_mod_bracket_189 rfl ?_
      refine rp_callV1 d_mod_bracket_191 q_mod_bracket_51 (Or.inl ⟨_, _, _, rfl, rfl⟩) (Nat.le_of_ble_eq_true rfl) (Nat.le_of_ble_eq_true rfl) ?_
      refine s_mod_at (j := q + m) hR hn h40 (rfl) (by omega) ?_
      refine rp_bipush (v := 93) d_mod_bracket_194 (by decide) ?_
      refine rp_icmp_ne (tgt := 223) d_mod_bracket_196 (by decide) (fun c196 => ?_) (fun c196 => ?_)
      · refine rp_return d_mod_bracket_223 rfl ?_
        first
          | (rw [if_neg (fun z => absurd c178 (nI_nlt (a := m) (b := 1) z.1 (by omega))), r_put_0] at k; exact k)
          | (rw [if_neg (fun z => absurd c185 (nI_nlt (a := 6) (b := m) z.2.1 (by omega))), r_put_0] at k; exact k)
          | (rw [if_neg (fun z => c196 z.2.2), r_put_0] at k; exact k)
          | (rw [if_pos ⟨Nat.not_lt.mp (fun z => c178 (nI_lt (a := m) (b := 1) z (by omega))), Nat.not_lt.mp (fun z => c185 (nI_lt (a := 6) (b := m) z (by omega))), c196⟩, r_put_1 _ (by decide), nI_succ] at k; exact k)
      · refine rp_aload_n (i := 0) d_mod_bracket_199 rfl rfl ?_
        refine rp_bipush (v := 7) d_mod_bracket_200 (by decide) ?_
        refine rp_iload_n (i := 3) d_mod_bracket_202 rfl rfl ?_
        refine rp_iload (i := 5) d_mod_bracket_203 rfl ?_
        refine rp_if_eq (tgt := 214) d_mod_bracket_205 (by decide) (fun c205 => ?_) (fun c205 => ?_)
        · exact absurd c205 (by decide)
        · refine rp_iload (i := 6) d_mod_bracket_208 rfl ?_
          refine rp_ineg d_mod_bracket_210 ?_
          refine rp_goto (tgt := 216) d_mod_bracket_211 (by decide) ?_
          refine rp_iload (i := 4) d_mod_bracket_216 rfl ?_
          refine rp_iconst (v := 1) d_mod_bracket_218 (by decide) ?_
          refine rp_iadd d_mod_bracket_219 ?_
          refine rp_callV4 d_mod_bracket_220 q_mod_bracket_55 (Or.inl ⟨_, _, _, rfl, rfl⟩) (Nat.le_of_ble_eq_true rfl) (Nat.le_of_ble_eq_true rfl) ?_
          refine s_mod_meet ?_
          refine rp_return d_mod_bracket_223 rfl ?_
          first
            | (rw [if_neg (fun z => absurd c178 (nI_nlt (a := m) (b := 1) z.1 (by omega))), r_put_0] at k; exact k)
            | (rw [if_neg (fun z => absurd c185 (nI_nlt (a := 6) (b := m) z.2.1 (by omega))), r_put_0] at k; exact k)
            | (rw [if_neg (fun z => c196 z.2.2), r_put_0] at k; exact k)
            | (rw [if_pos ⟨Nat.not_lt.mp (fun z => c178 (nI_lt (a := m) (b := 1) z (by omega))), Nat.not_lt.mp (fun z => c185 (nI_lt (a := 6) (b := m) z (by omega))), c196⟩, r_put_1 _ (by decide), nI_succ] at k; exact k)
set_option maxHeartbeats 4000000 in
set_option maxRecDepth 100000 in
theorem t_mod_bracket0 {h : cf_H} {P : Option Value → cf_H → Prop} (hR : cf_ok h) {n : Nat} (hn : h.1 19 0 = nI n) (h40 : n ≤ 40) {p q m : Nat} {how v : Int32} (hq : q < 2 ^ 28) (hm : m ≤ 7) (k : P none (r_put h (if 1 ≤ m ∧ m ≤ 6 ∧ r_g h n (q + m) = 93 then (7, how, v, q + m + 1) else (0, 0, 0, 0)))) : RP k_mod_bracket 175 [(0, .ref 19), (1, .int (nI p)), (3, .int how), (4, .int (nI (q + m))), (5, .int 0), (6, .int v), (7, .int (nI m))] [] h P := by
  refine rp_iload (i := 7) d_mod_bracket_175 rfl ?_
  refine rp_iconst (v := 1) d_mod_bracket_177 (by decide) ?_
  refine rp_icmp_lt (tgt := 223) d_mod_bracket_178 (by decide) (fun c178 => ?_) (fun c178 => ?_)
  · refine rp_return d_mod_bracket_223 rfl ?_
    first
      | (rw [if_neg (fun z => absurd c178 (nI_nlt (a := m) (b := 1) z.1 (by omega))), r_put_0] at k; exact k)
      | (rw [if_neg (fun z => absurd c185 (nI_nlt (a := 6) (b := m) z.2.1 (by omega))), r_put_0] at k; exact k)
      | (rw [if_neg (fun z => c196 z.2.2), r_put_0] at k; exact k)
      | (rw [if_pos ⟨Nat.not_lt.mp (fun z => c178 (nI_lt (a := m) (b := 1) z (by omega))), Nat.not_lt.mp (fun z => c185 (nI_lt (a := 6) (b := m) z (by omega))), c196⟩, r_put_1 _ (by decide), nI_succ] at k; exact k)
  · refine rp_iload (i := 7) d_mod_bracket_181 rfl ?_
    refine rp_bipush (v := 6) d_mod_bracket_183 (by decide) ?_
    refine rp_icmp_gt (tgt := 223) d_mod_bracket_185 (by decide) (fun c185 => ?_) (fun c185 => ?_)
    · refine rp_return d_mod_bracket_223 rfl ?_
      first
        | (rw [if_neg (fun z => absurd c178 (nI_nlt (a := m) (b := 1) z.1 (by omega))), r_put_0] at k; exact k)
        | (rw [if_neg (fun z => absurd c185 (nI_nlt (a := 6) (b := m) z.2.1 (by omega))), r_put_0] at k; exact k)
        | (rw [if_neg (fun z => c196 z.2.2), r_put_0] at k; exact k)
        | (rw [if_pos ⟨Nat.not_lt.mp (fun z => c178 (nI_lt (a := m) (b := 1) z (by omega))), Nat.not_lt.mp (fun z => c185 (nI_lt (a := 6) (b := m) z (by omega))), c196⟩, r_put_1 _ (by decide), nI_succ] at k; exact k)
    · refine rp_aload_n (i := 0) d_mod_bracket_188 rfl rfl ?_
      refine rp_iload (i := 4) d_mod_bracket_189 rfl ?_
      refine rp_callV1 d_mod_bracket_191 q_mod_bracket_51 (Or.inl ⟨_, _, _, rfl, rfl⟩) (Nat.le_of_ble_eq_true rfl) (Nat.le_of_ble_eq_true rfl) ?_
      refine s_mod_at (j := q + m) hR hn h40 (rfl) (by omega) ?_
      refine rp_bipush (v := 93) d_mod_bracket_194 (by decide) ?_
      refine rp_icmp_ne (tgt := 223) d_mod_bracket_196 (by decide) (fun c196 => ?_) (fun c196 => ?_)
      · refine rp_return d_mod_bracket_223 rfl ?_
        first
          | (rw [if_neg (fun z => absurd c178 (nI_nlt (a := m) (b := 1) z.1 (by omega))), r_put_0] at k; exact k)
          | (rw [if_neg (fun z => absurd c185 (nI_nlt (a := 6) (b := m) z.2.1 (by omega))), r_put_0] at k; exact k)
          | (rw [if_neg (fun z => c196 z.2.2), r_put_0] at k; exact k)
          | (rw [if_pos ⟨Nat.not_lt.mp (fun z => c178 (nI_lt (a := m) (b := 1) z (by omega))), Nat.not_lt.mp (fun z => c185 (nI_lt (a := 6) (b := m) z (by omega))), c196⟩, r_put_1 _ (by decide), nI_succ] at k; exact k)
      · refine rp_aload_n (i := 0) d_mod_bracket_199 rfl rfl ?_
        refine rp_bipush (v := 7) d_mod_bracket_200 (by decide) ?_
        refine rp_iload_n (i := 3) d_mod_bracket_202 rfl rfl ?_
        refine rp_iload (i := 5) d_mod_bracket_203 rfl ?_
        refine rp_if_eq (tgt := 214) d_mod_bracket_205 (by decide) (fun c205 => ?_) (fun c205 => ?_)
        · refine rp_iload (i := 6) d_mod_bracket_214 rfl ?_
          refine rp_iload (i := 4) d_mod_bracket_216 rfl ?_
          refine rp_iconst (v := 1) d_mod_bracket_218 (by decide) ?_
          refine rp_iadd d_mod_bracket_219 ?_
          refine rp_callV4 d_mod_bracket_220 q_mod_bracket_55 (Or.inl ⟨_, _, _, rfl, rfl⟩) (Nat.le_of_ble_eq_true rfl) (Nat.le_of_ble_eq_true rfl) ?_
          refine s_mod_meet ?_
          refine rp_return d_mod_bracket_223 rfl ?_
          first
            | (rw [if_neg (fun z => absurd c178 (nI_nlt (a := m) (b := 1) z.1 (by omega))), r_put_0] at k; exact k)
            | (rw [if_neg (fun z => absurd c185 (nI_nlt (a := 6) (b := m) z.2.1 (by omega))), r_put_0] at k; exact k)
            | (rw [if_neg (fun z => c196 z.2.2), r_put_0] at k; exact k)
            | (rw [if_pos ⟨Nat.not_lt.mp (fun z => c178 (nI_lt (a := m) (b := 1) z (by omega))), Nat.not_lt.mp (fun z => c185 (nI_lt (a := 6) (b := m) z (by omega))), c196⟩, r_put_1 _ (by decide), nI_succ] at k; exact k)
        · exact absurd rfl c205
set_option maxHeartbeats 4000000 in
set_option maxRecDepth 100000 in
theorem l_mod_bracket88 {h : cf_H} {P : Option Value → cf_H → Prop} (hR : cf_ok h) {n : Nat} (hn : h.1 19 0 = nI n) (h40 : n ≤ 40) {p q0 : Nat} {how : Int32} (hq : q0 < 2 ^ 27) (k : P none (r_put h (r_brk2 (r_g h n) how q0))) : RP k_mod_bracket 88 [(0, .ref 19), (1, .int (nI p)), (3, .int how)] [.int (nI q0)] h P := by
  refine rp_istore (i := 4) d_mod_bracket_88 rfl (Nat.le_of_ble_eq_true rfl) ?_
  refine rp_aload_n (i := 0) d_mod_bracket_90 rfl rfl ?_
  refine rp_iload (i := 4) d_mod_bracket_91 rfl ?_
  refine rp_callV1 d_mod_bracket_93 q_mod_bracket_51 (Or.inl ⟨_, _, _, rfl, rfl⟩) (Nat.le_of_ble_eq_true rfl) (Nat.le_of_ble_eq_true rfl) ?_
  refine s_mod_at (j := q0) hR hn h40 (rfl) (by omega) ?_
  refine rp_bipush (v := 45) d_mod_bracket_96 (by decide) ?_
  refine rp_icmp_ne (tgt := 105) d_mod_bracket_98 (by decide) (fun c98 => ?_) (fun c98 => ?_)
  · refine rp_iconst (v := 0) d_mod_bracket_105 (by decide) ?_
    refine rp_istore (i := 5) d_mod_bracket_106 rfl (Nat.le_of_ble_eq_true rfl) ?_
    refine rp_iload (i := 5) d_mod_bracket_108 rfl ?_
    refine rp_if_eq (tgt := 120) d_mod_bracket_110 (by decide) (fun c110 => ?_) (fun c110 => ?_)
    · refine rp_iload (i := 4) d_mod_bracket_120 rfl ?_
      refine rp_istore (i := 4) d_mod_bracket_122 rfl (Nat.le_of_ble_eq_true rfl) ?_
      refine rp_iconst (v := 0) d_mod_bracket_124 (by decide) ?_
      refine rp_istore (i := 6) d_mod_bracket_125 rfl (Nat.le_of_ble_eq_true rfl) ?_
      refine rp_iconst (v := 0) d_mod_bracket_127 (by decide) ?_
      refine rp_istore (i := 7) d_mod_bracket_128 rfl (Nat.le_of_ble_eq_true rfl) ?_
      first
      | (refine rp_lv [(0, .ref 19), (1, .int (nI p)), (3, .int how), (4, .int (nI (q0))), (5, .int 0), (6, .int 0), (7, .int (nI 0))] (by first | rfl | (simp only [nI_succ]; rfl)) ?_; refine l_mod_bracket hR hn h40 7 (q0) 0 0 rfl (by omega) ?_; rw [Nat.zero_add]; refine t_mod_bracket0 hR hn h40 (by omega) (r_run_le _ _ _) ?_; rw [r_brk2, if_neg c98] at k; exact k)
      | (refine rp_lv [(0, .ref 19), (1, .int (nI p)), (3, .int how), (4, .int (nI (q0 + 1))), (5, .int 1), (6, .int 0), (7, .int (nI 0))] (by first | rfl | (simp only [nI_succ]; rfl)) ?_; refine l_mod_bracket hR hn h40 7 (q0 + 1) 0 0 rfl (by omega) ?_; rw [Nat.zero_add]; refine t_mod_bracket1 hR hn h40 (by omega) (r_run_le _ _ _) ?_; rw [r_brk2, if_pos c98] at k; exact k)
    · exact absurd (by decide) c110
  · refine rp_iconst (v := 1) d_mod_bracket_101 (by decide) ?_
    refine rp_goto (tgt := 106) d_mod_bracket_102 (by decide) ?_
    refine rp_istore (i := 5) d_mod_bracket_106 rfl (Nat.le_of_ble_eq_true rfl) ?_
    refine rp_iload (i := 5) d_mod_bracket_108 rfl ?_
    refine rp_if_eq (tgt := 120) d_mod_bracket_110 (by decide) (fun c110 => ?_) (fun c110 => ?_)
    · exact absurd c110 (by decide)
    · refine rp_iload (i := 4) d_mod_bracket_113 rfl ?_
      refine rp_iconst (v := 1) d_mod_bracket_115 (by decide) ?_
      refine rp_iadd d_mod_bracket_116 ?_
      refine rp_goto (tgt := 122) d_mod_bracket_117 (by decide) ?_
      refine rp_istore (i := 4) d_mod_bracket_122 rfl (Nat.le_of_ble_eq_true rfl) ?_
      refine rp_iconst (v := 0) d_mod_bracket_124 (by decide) ?_
      refine rp_istore (i := 6) d_mod_bracket_125 rfl (Nat.le_of_ble_eq_true rfl) ?_
      refine rp_iconst (v := 0) d_mod_bracket_127 (by decide) ?_
      refine rp_istore (i := 7) d_mod_bracket_128 rfl (Nat.le_of_ble_eq_true rfl) ?_
      first
      | (refine rp_lv [(0, .ref 19), (1, .int (nI p)), (3, .int how), (4, .int (nI (q0))), (5, .int 0), (6, .int 0), (7, .int (nI 0))] (by first | rfl | (simp only [nI_succ]; rfl)) ?_; refine l_mod_bracket hR hn h40 7 (q0) 0 0 rfl (by omega) ?_; rw [Nat.zero_add]; refine t_mod_bracket0 hR hn h40 (by omega) (r_run_le _ _ _) ?_; rw [r_brk2, if_neg c98] at k; exact k)
      | (refine rp_lv [(0, .ref 19), (1, .int (nI p)), (3, .int how), (4, .int (nI (q0 + 1))), (5, .int 1), (6, .int 0), (7, .int (nI 0))] (by first | rfl | (simp only [nI_succ]; rfl)) ?_; refine l_mod_bracket hR hn h40 7 (q0 + 1) 0 0 rfl (by omega) ?_; rw [Nat.zero_add]; refine t_mod_bracket1 hR hn h40 (by omega) (r_run_le _ _ _) ?_; rw [r_brk2, if_pos c98] at k; exact k)
set_option maxHeartbeats 4000000 in
set_option maxRecDepth 100000 in
theorem s_mod_bracket {h : cf_H} {P : Option Value → cf_H → Prop} (hR : cf_ok h) {n : Nat} (hn : h.1 19 0 = nI n) (h40 : n ≤ 40) {x : Int32} {p : Nat} (hx : x = nI p) (hp : p < 2 ^ 26) (k : P none (r_put h (r_brk (r_g h n) p))) : RP k_mod_bracket 0 [(0, .ref 19), (1, .int x)] [] h P := by
  subst hx
  refine rp_aload_n (i := 0) d_mod_bracket_0 rfl rfl ?_
  refine rp_iload_n (i := 1) d_mod_bracket_1 rfl rfl ?_
  refine rp_iconst (v := 1) d_mod_bracket_2 (by decide) ?_
  refine rp_iadd d_mod_bracket_3 ?_
  refine rp_callV1 d_mod_bracket_4 q_mod_bracket_51 (Or.inl ⟨_, _, _, rfl, rfl⟩) (Nat.le_of_ble_eq_true rfl) (Nat.le_of_ble_eq_true rfl) ?_
  refine s_mod_at (j := p + 1) hR hn h40 (nI_add p 1) (by omega) ?_
  refine rp_istore_n (i := 2) d_mod_bracket_7 rfl rfl (Nat.le_of_ble_eq_true rfl) ?_
  refine rp_iload_n (i := 2) d_mod_bracket_8 rfl rfl ?_
  refine rp_bipush (v := 104) d_mod_bracket_9 (by decide) ?_
  refine rp_icmp_eq (tgt := 26) d_mod_bracket_11 (by decide) (fun c11 => ?_) (fun c11 => ?_)
  · refine rp_aload_n (i := 0) d_mod_bracket_26 rfl rfl ?_
    refine rp_iload_n (i := 1) d_mod_bracket_27 rfl rfl ?_
    refine rp_iconst (v := 2) d_mod_bracket_28 (by decide) ?_
    refine rp_iadd d_mod_bracket_29 ?_
    refine rp_callV1 d_mod_bracket_30 q_mod_bracket_51 (Or.inl ⟨_, _, _, rfl, rfl⟩) (Nat.le_of_ble_eq_true rfl) (Nat.le_of_ble_eq_true rfl) ?_
    refine s_mod_at (j := p + 2) hR hn h40 (nI_add p 2) (by omega) ?_
    refine rp_bipush (v := 93) d_mod_bracket_33 (by decide) ?_
    refine rp_icmp_ne (tgt := 50) d_mod_bracket_35 (by decide) (fun c35 => ?_) (fun c35 => ?_)
    · refine rp_aload_n (i := 0) d_mod_bracket_50 rfl rfl ?_
      refine rp_iload_n (i := 1) d_mod_bracket_51 rfl rfl ?_
      refine rp_iconst (v := 1) d_mod_bracket_52 (by decide) ?_
      refine rp_iadd d_mod_bracket_53 ?_
      refine rp_callV1 d_mod_bracket_54 q_mod_bracket_59 (Or.inl ⟨_, _, _, rfl, rfl⟩) (Nat.le_of_ble_eq_true rfl) (Nat.le_of_ble_eq_true rfl) ?_
      refine s_mod_comparison (j := p + 1) hR hn h40 (nI_add p 1) (by omega) ?_
      refine rp_istore_n (i := 3) d_mod_bracket_57 rfl rfl (Nat.le_of_ble_eq_true rfl) ?_
      refine rp_iload_n (i := 3) d_mod_bracket_58 rfl rfl ?_
      refine rp_if_ne (tgt := 63) d_mod_bracket_59 (by decide) (fun c59 => ?_) (fun c59 => ?_)
      · refine rp_iload_n (i := 3) d_mod_bracket_63 rfl rfl ?_
        refine rp_iconst (v := 2) d_mod_bracket_64 (by decide) ?_
        refine rp_icmp_eq (tgt := 79) d_mod_bracket_65 (by decide) (fun c65 => ?_) (fun c65 => ?_)
        · refine rp_iload_n (i := 1) d_mod_bracket_79 rfl rfl ?_
          refine rp_iconst (v := 3) d_mod_bracket_80 (by decide) ?_
          refine rp_iadd d_mod_bracket_81 ?_
          refine rp_goto (tgt := 88) d_mod_bracket_82 (by decide) ?_
          rw [r_brk, if_neg (by simp [*]), if_neg (by simp [*])] at k
          first
          | (rw [if_pos (by simp [*])] at k; refine rp_lv [(0, .ref 19), (1, .int (nI p)), (3, .int (r_cmp (r_g h n) (p + 1)))] rfl ?_; exact (nI_add p 3) ▸ l_mod_bracket88 hR hn h40 (by omega) k)
          | (rw [if_neg (by simp [*])] at k; refine rp_lv [(0, .ref 19), (1, .int (nI p)), (3, .int (r_cmp (r_g h n) (p + 1)))] rfl ?_; exact (nI_add p 2) ▸ l_mod_bracket88 hR hn h40 (by omega) k)
        · refine rp_iload_n (i := 3) d_mod_bracket_68 rfl rfl ?_
          refine rp_iconst (v := 4) d_mod_bracket_69 (by decide) ?_
          refine rp_icmp_eq (tgt := 79) d_mod_bracket_70 (by decide) (fun c70 => ?_) (fun c70 => ?_)
          · refine rp_iload_n (i := 1) d_mod_bracket_79 rfl rfl ?_
            refine rp_iconst (v := 3) d_mod_bracket_80 (by decide) ?_
            refine rp_iadd d_mod_bracket_81 ?_
            refine rp_goto (tgt := 88) d_mod_bracket_82 (by decide) ?_
            rw [r_brk, if_neg (by simp [*]), if_neg (by simp [*])] at k
            first
            | (rw [if_pos (by simp [*])] at k; refine rp_lv [(0, .ref 19), (1, .int (nI p)), (3, .int (r_cmp (r_g h n) (p + 1)))] rfl ?_; exact (nI_add p 3) ▸ l_mod_bracket88 hR hn h40 (by omega) k)
            | (rw [if_neg (by simp [*])] at k; refine rp_lv [(0, .ref 19), (1, .int (nI p)), (3, .int (r_cmp (r_g h n) (p + 1)))] rfl ?_; exact (nI_add p 2) ▸ l_mod_bracket88 hR hn h40 (by omega) k)
          · refine rp_iload_n (i := 3) d_mod_bracket_73 rfl rfl ?_
            refine rp_bipush (v := 6) d_mod_bracket_74 (by decide) ?_
            refine rp_icmp_ne (tgt := 85) d_mod_bracket_76 (by decide) (fun c76 => ?_) (fun c76 => ?_)
            · refine rp_iload_n (i := 1) d_mod_bracket_85 rfl rfl ?_
              refine rp_iconst (v := 2) d_mod_bracket_86 (by decide) ?_
              refine rp_iadd d_mod_bracket_87 ?_
              rw [r_brk, if_neg (by simp [*]), if_neg (by simp [*])] at k
              first
              | (rw [if_pos (by simp [*])] at k; refine rp_lv [(0, .ref 19), (1, .int (nI p)), (3, .int (r_cmp (r_g h n) (p + 1)))] rfl ?_; exact (nI_add p 3) ▸ l_mod_bracket88 hR hn h40 (by omega) k)
              | (rw [if_neg (by simp [*])] at k; refine rp_lv [(0, .ref 19), (1, .int (nI p)), (3, .int (r_cmp (r_g h n) (p + 1)))] rfl ?_; exact (nI_add p 2) ▸ l_mod_bracket88 hR hn h40 (by omega) k)
            · refine rp_iload_n (i := 1) d_mod_bracket_79 rfl rfl ?_
              refine rp_iconst (v := 3) d_mod_bracket_80 (by decide) ?_
              refine rp_iadd d_mod_bracket_81 ?_
              refine rp_goto (tgt := 88) d_mod_bracket_82 (by decide) ?_
              rw [r_brk, if_neg (by simp [*]), if_neg (by simp [*])] at k
              first
              | (rw [if_pos (by simp [*])] at k; refine rp_lv [(0, .ref 19), (1, .int (nI p)), (3, .int (r_cmp (r_g h n) (p + 1)))] rfl ?_; exact (nI_add p 3) ▸ l_mod_bracket88 hR hn h40 (by omega) k)
              | (rw [if_neg (by simp [*])] at k; refine rp_lv [(0, .ref 19), (1, .int (nI p)), (3, .int (r_cmp (r_g h n) (p + 1)))] rfl ?_; exact (nI_add p 2) ▸ l_mod_bracket88 hR hn h40 (by omega) k)
      · refine rp_return d_mod_bracket_62 rfl ?_
        first
        | (rw [r_brk, if_pos (by simp [*]), r_put_1 _ (by decide), ← nI_add] at k; exact k)
        | (rw [r_brk, if_neg (by simp [*]), if_pos (by simp [*]), r_put_0] at k; exact k)
    · refine rp_aload_n (i := 0) d_mod_bracket_38 rfl rfl ?_
      refine rp_bipush (v := 8) d_mod_bracket_39 (by decide) ?_
      refine rp_iload_n (i := 2) d_mod_bracket_41 rfl rfl ?_
      refine rp_iconst (v := 0) d_mod_bracket_42 (by decide) ?_
      refine rp_iload_n (i := 1) d_mod_bracket_43 rfl rfl ?_
      refine rp_iconst (v := 3) d_mod_bracket_44 (by decide) ?_
      refine rp_iadd d_mod_bracket_45 ?_
      refine rp_callV4 d_mod_bracket_46 q_mod_bracket_55 (Or.inl ⟨_, _, _, rfl, rfl⟩) (Nat.le_of_ble_eq_true rfl) (Nat.le_of_ble_eq_true rfl) ?_
      refine s_mod_meet ?_
      refine rp_return d_mod_bracket_49 rfl ?_
      first
      | (rw [r_brk, if_pos (by simp [*]), r_put_1 _ (by decide), ← nI_add] at k; exact k)
      | (rw [r_brk, if_neg (by simp [*]), if_pos (by simp [*]), r_put_0] at k; exact k)
  · refine rp_iload_n (i := 2) d_mod_bracket_14 rfl rfl ?_
    refine rp_bipush (v := 109) d_mod_bracket_15 (by decide) ?_
    refine rp_icmp_eq (tgt := 26) d_mod_bracket_17 (by decide) (fun c17 => ?_) (fun c17 => ?_)
    · refine rp_aload_n (i := 0) d_mod_bracket_26 rfl rfl ?_
      refine rp_iload_n (i := 1) d_mod_bracket_27 rfl rfl ?_
      refine rp_iconst (v := 2) d_mod_bracket_28 (by decide) ?_
      refine rp_iadd d_mod_bracket_29 ?_
      refine rp_callV1 d_mod_bracket_30 q_mod_bracket_51 (Or.inl ⟨_, _, _, rfl, rfl⟩) (Nat.le_of_ble_eq_true rfl) (Nat.le_of_ble_eq_true rfl) ?_
      refine s_mod_at (j := p + 2) hR hn h40 (nI_add p 2) (by omega) ?_
      refine rp_bipush (v := 93) d_mod_bracket_33 (by decide) ?_
      refine rp_icmp_ne (tgt := 50) d_mod_bracket_35 (by decide) (fun c35 => ?_) (fun c35 => ?_)
      · refine rp_aload_n (i := 0) d_mod_bracket_50 rfl rfl ?_
        refine rp_iload_n (i := 1) d_mod_bracket_51 rfl rfl ?_
        refine rp_iconst (v := 1) d_mod_bracket_52 (by decide) ?_
        refine rp_iadd d_mod_bracket_53 ?_
        refine rp_callV1 d_mod_bracket_54 q_mod_bracket_59 (Or.inl ⟨_, _, _, rfl, rfl⟩) (Nat.le_of_ble_eq_true rfl) (Nat.le_of_ble_eq_true rfl) ?_
        refine s_mod_comparison (j := p + 1) hR hn h40 (nI_add p 1) (by omega) ?_
        refine rp_istore_n (i := 3) d_mod_bracket_57 rfl rfl (Nat.le_of_ble_eq_true rfl) ?_
        refine rp_iload_n (i := 3) d_mod_bracket_58 rfl rfl ?_
        refine rp_if_ne (tgt := 63) d_mod_bracket_59 (by decide) (fun c59 => ?_) (fun c59 => ?_)
        · refine rp_iload_n (i := 3) d_mod_bracket_63 rfl rfl ?_
          refine rp_iconst (v := 2) d_mod_bracket_64 (by decide) ?_
          refine rp_icmp_eq (tgt := 79) d_mod_bracket_65 (by decide) (fun c65 => ?_) (fun c65 => ?_)
          · refine rp_iload_n (i := 1) d_mod_bracket_79 rfl rfl ?_
            refine rp_iconst (v := 3) d_mod_bracket_80 (by decide) ?_
            refine rp_iadd d_mod_bracket_81 ?_
            refine rp_goto (tgt := 88) d_mod_bracket_82 (by decide) ?_
            rw [r_brk, if_neg (by simp [*]), if_neg (by simp [*])] at k
            first
            | (rw [if_pos (by simp [*])] at k; refine rp_lv [(0, .ref 19), (1, .int (nI p)), (3, .int (r_cmp (r_g h n) (p + 1)))] rfl ?_; exact (nI_add p 3) ▸ l_mod_bracket88 hR hn h40 (by omega) k)
            | (rw [if_neg (by simp [*])] at k; refine rp_lv [(0, .ref 19), (1, .int (nI p)), (3, .int (r_cmp (r_g h n) (p + 1)))] rfl ?_; exact (nI_add p 2) ▸ l_mod_bracket88 hR hn h40 (by omega) k)
          · refine rp_iload_n (i := 3) d_mod_bracket_68 rfl rfl ?_
            refine rp_iconst (v := 4) d_mod_bracket_69 (by decide) ?_
            refine rp_icmp_eq (tgt := 79) d_mod_bracket_70 (by decide) (fun c70 => ?_) (fun c70 => ?_)
            · refine rp_iload_n (i := 1) d_mod_bracket_79 rfl rfl ?_
              refine rp_iconst (v := 3) d_mod_bracket_80 (by decide) ?_
              refine rp_iadd d_mod_bracket_81 ?_
              refine rp_goto (tgt := 88) d_mod_bracket_82 (by decide) ?_
              rw [r_brk, if_neg (by simp [*]), if_neg (by simp [*])] at k
              first
              | (rw [if_pos (by simp [*])] at k; refine rp_lv [(0, .ref 19), (1, .int (nI p)), (3, .int (r_cmp (r_g h n) (p + 1)))] rfl ?_; exact (nI_add p 3) ▸ l_mod_bracket88 hR hn h40 (by omega) k)
              | (rw [if_neg (by simp [*])] at k; refine rp_lv [(0, .ref 19), (1, .int (nI p)), (3, .int (r_cmp (r_g h n) (p + 1)))] rfl ?_; exact (nI_add p 2) ▸ l_mod_bracket88 hR hn h40 (by omega) k)
            · refine rp_iload_n (i := 3) d_mod_bracket_73 rfl rfl ?_
              refine rp_bipush (v := 6) d_mod_bracket_74 (by decide) ?_
              refine rp_icmp_ne (tgt := 85) d_mod_bracket_76 (by decide) (fun c76 => ?_) (fun c76 => ?_)
              · refine rp_iload_n (i := 1) d_mod_bracket_85 rfl rfl ?_
                refine rp_iconst (v := 2) d_mod_bracket_86 (by decide) ?_
                refine rp_iadd d_mod_bracket_87 ?_
                rw [r_brk, if_neg (by simp [*]), if_neg (by simp [*])] at k
                first
                | (rw [if_pos (by simp [*])] at k; refine rp_lv [(0, .ref 19), (1, .int (nI p)), (3, .int (r_cmp (r_g h n) (p + 1)))] rfl ?_; exact (nI_add p 3) ▸ l_mod_bracket88 hR hn h40 (by omega) k)
                | (rw [if_neg (by simp [*])] at k; refine rp_lv [(0, .ref 19), (1, .int (nI p)), (3, .int (r_cmp (r_g h n) (p + 1)))] rfl ?_; exact (nI_add p 2) ▸ l_mod_bracket88 hR hn h40 (by omega) k)
              · refine rp_iload_n (i := 1) d_mod_bracket_79 rfl rfl ?_
                refine rp_iconst (v := 3) d_mod_bracket_80 (by decide) ?_
                refine rp_iadd d_mod_bracket_81 ?_
                refine rp_goto (tgt := 88) d_mod_bracket_82 (by decide) ?_
                rw [r_brk, if_neg (by simp [*]), if_neg (by simp [*])] at k
                first
                | (rw [if_pos (by simp [*])] at k; refine rp_lv [(0, .ref 19), (1, .int (nI p)), (3, .int (r_cmp (r_g h n) (p + 1)))] rfl ?_; exact (nI_add p 3) ▸ l_mod_bracket88 hR hn h40 (by omega) k)
                | (rw [if_neg (by simp [*])] at k; refine rp_lv [(0, .ref 19), (1, .int (nI p)), (3, .int (r_cmp (r_g h n) (p + 1)))] rfl ?_; exact (nI_add p 2) ▸ l_mod_bracket88 hR hn h40 (by omega) k)
        · refine rp_return d_mod_bracket_62 rfl ?_
          first
          | (rw [r_brk, if_pos (by simp [*]), r_put_1 _ (by decide), ← nI_add] at k; exact k)
          | (rw [r_brk, if_neg (by simp [*]), if_pos (by simp [*]), r_put_0] at k; exact k)
      · refine rp_aload_n (i := 0) d_mod_bracket_38 rfl rfl ?_
        refine rp_bipush (v := 8) d_mod_bracket_39 (by decide) ?_
        refine rp_iload_n (i := 2) d_mod_bracket_41 rfl rfl ?_
        refine rp_iconst (v := 0) d_mod_bracket_42 (by decide) ?_
        refine rp_iload_n (i := 1) d_mod_bracket_43 rfl rfl ?_
        refine rp_iconst (v := 3) d_mod_bracket_44 (by decide) ?_
        refine rp_iadd d_mod_bracket_45 ?_
        refine rp_callV4 d_mod_bracket_46 q_mod_bracket_55 (Or.inl ⟨_, _, _, rfl, rfl⟩) (Nat.le_of_ble_eq_true rfl) (Nat.le_of_ble_eq_true rfl) ?_
        refine s_mod_meet ?_
        refine rp_return d_mod_bracket_49 rfl ?_
        first
        | (rw [r_brk, if_pos (by simp [*]), r_put_1 _ (by decide), ← nI_add] at k; exact k)
        | (rw [r_brk, if_neg (by simp [*]), if_pos (by simp [*]), r_put_0] at k; exact k)
    · refine rp_iload_n (i := 2) d_mod_bracket_20 rfl rfl ?_
      refine rp_bipush (v := 115) d_mod_bracket_21 (by decide) ?_
      refine rp_icmp_ne (tgt := 50) d_mod_bracket_23 (by decide) (fun c23 => ?_) (fun c23 => ?_)
      · refine rp_aload_n (i := 0) d_mod_bracket_50 rfl rfl ?_
        refine rp_iload_n (i := 1) d_mod_bracket_51 rfl rfl ?_
        refine rp_iconst (v := 1) d_mod_bracket_52 (by decide) ?_
        refine rp_iadd d_mod_bracket_53 ?_
        refine rp_callV1 d_mod_bracket_54 q_mod_bracket_59 (Or.inl ⟨_, _, _, rfl, rfl⟩) (Nat.le_of_ble_eq_true rfl) (Nat.le_of_ble_eq_true rfl) ?_
        refine s_mod_comparison (j := p + 1) hR hn h40 (nI_add p 1) (by omega) ?_
        refine rp_istore_n (i := 3) d_mod_bracket_57 rfl rfl (Nat.le_of_ble_eq_true rfl) ?_
        refine rp_iload_n (i := 3) d_mod_bracket_58 rfl rfl ?_
        refine rp_if_ne (tgt := 63) d_mod_bracket_59 (by decide) (fun c59 => ?_) (fun c59 => ?_)
        · refine rp_iload_n (i := 3) d_mod_bracket_63 rfl rfl ?_
          refine rp_iconst (v := 2) d_mod_bracket_64 (by decide) ?_
          refine rp_icmp_eq (tgt := 79) d_mod_bracket_65 (by decide) (fun c65 => ?_) (fun c65 => ?_)
          · refine rp_iload_n (i := 1) d_mod_bracket_79 rfl rfl ?_
            refine rp_iconst (v := 3) d_mod_bracket_80 (by decide) ?_
            refine rp_iadd d_mod_bracket_81 ?_
            refine rp_goto (tgt := 88) d_mod_bracket_82 (by decide) ?_
            rw [r_brk, if_neg (by simp [*]), if_neg (by simp [*])] at k
            first
            | (rw [if_pos (by simp [*])] at k; refine rp_lv [(0, .ref 19), (1, .int (nI p)), (3, .int (r_cmp (r_g h n) (p + 1)))] rfl ?_; exact (nI_add p 3) ▸ l_mod_bracket88 hR hn h40 (by omega) k)
            | (rw [if_neg (by simp [*])] at k; refine rp_lv [(0, .ref 19), (1, .int (nI p)), (3, .int (r_cmp (r_g h n) (p + 1)))] rfl ?_; exact (nI_add p 2) ▸ l_mod_bracket88 hR hn h40 (by omega) k)
          · refine rp_iload_n (i := 3) d_mod_bracket_68 rfl rfl ?_
            refine rp_iconst (v := 4) d_mod_bracket_69 (by decide) ?_
            refine rp_icmp_eq (tgt := 79) d_mod_bracket_70 (by decide) (fun c70 => ?_) (fun c70 => ?_)
            · refine rp_iload_n (i := 1) d_mod_bracket_79 rfl rfl ?_
              refine rp_iconst (v := 3) d_mod_bracket_80 (by decide) ?_
              refine rp_iadd d_mod_bracket_81 ?_
              refine rp_goto (tgt := 88) d_mod_bracket_82 (by decide) ?_
              rw [r_brk, if_neg (by simp [*]), if_neg (by simp [*])] at k
              first
              | (rw [if_pos (by simp [*])] at k; refine rp_lv [(0, .ref 19), (1, .int (nI p)), (3, .int (r_cmp (r_g h n) (p + 1)))] rfl ?_; exact (nI_add p 3) ▸ l_mod_bracket88 hR hn h40 (by omega) k)
              | (rw [if_neg (by simp [*])] at k; refine rp_lv [(0, .ref 19), (1, .int (nI p)), (3, .int (r_cmp (r_g h n) (p + 1)))] rfl ?_; exact (nI_add p 2) ▸ l_mod_bracket88 hR hn h40 (by omega) k)
            · refine rp_iload_n (i := 3) d_mod_bracket_73 rfl rfl ?_
              refine rp_bipush (v := 6) d_mod_bracket_74 (by decide) ?_
              refine rp_icmp_ne (tgt := 85) d_mod_bracket_76 (by decide) (fun c76 => ?_) (fun c76 => ?_)
              · refine rp_iload_n (i := 1) d_mod_bracket_85 rfl rfl ?_
                refine rp_iconst (v := 2) d_mod_bracket_86 (by decide) ?_
                refine rp_iadd d_mod_bracket_87 ?_
                rw [r_brk, if_neg (by simp [*]), if_neg (by simp [*])] at k
                first
                | (rw [if_pos (by simp [*])] at k; refine rp_lv [(0, .ref 19), (1, .int (nI p)), (3, .int (r_cmp (r_g h n) (p + 1)))] rfl ?_; exact (nI_add p 3) ▸ l_mod_bracket88 hR hn h40 (by omega) k)
                | (rw [if_neg (by simp [*])] at k; refine rp_lv [(0, .ref 19), (1, .int (nI p)), (3, .int (r_cmp (r_g h n) (p + 1)))] rfl ?_; exact (nI_add p 2) ▸ l_mod_bracket88 hR hn h40 (by omega) k)
              · refine rp_iload_n (i := 1) d_mod_bracket_79 rfl rfl ?_
                refine rp_iconst (v := 3) d_mod_bracket_80 (by decide) ?_
                refine rp_iadd d_mod_bracket_81 ?_
                refine rp_goto (tgt := 88) d_mod_bracket_82 (by decide) ?_
                rw [r_brk, if_neg (by simp [*]), if_neg (by simp [*])] at k
                first
                | (rw [if_pos (by simp [*])] at k; refine rp_lv [(0, .ref 19), (1, .int (nI p)), (3, .int (r_cmp (r_g h n) (p + 1)))] rfl ?_; exact (nI_add p 3) ▸ l_mod_bracket88 hR hn h40 (by omega) k)
                | (rw [if_neg (by simp [*])] at k; refine rp_lv [(0, .ref 19), (1, .int (nI p)), (3, .int (r_cmp (r_g h n) (p + 1)))] rfl ?_; exact (nI_add p 2) ▸ l_mod_bracket88 hR hn h40 (by omega) k)
        · refine rp_return d_mod_bracket_62 rfl ?_
          first
          | (rw [r_brk, if_pos (by simp [*]), r_put_1 _ (by decide), ← nI_add] at k; exact k)
          | (rw [r_brk, if_neg (by simp [*]), if_pos (by simp [*]), r_put_0] at k; exact k)
      · refine rp_aload_n (i := 0) d_mod_bracket_26 rfl rfl ?_
        refine rp_iload_n (i := 1) d_mod_bracket_27 rfl rfl ?_
        refine rp_iconst (v := 2) d_mod_bracket_28 (by decide) ?_
        refine rp_iadd d_mod_bracket_29 ?_
        refine rp_callV1 d_mod_bracket_30 q_mod_bracket_51 (Or.inl ⟨_, _, _, rfl, rfl⟩) (Nat.le_of_ble_eq_true rfl) (Nat.le_of_ble_eq_true rfl) ?_
        refine s_mod_at (j := p + 2) hR hn h40 (nI_add p 2) (by omega) ?_
        refine rp_bipush (v := 93) d_mod_bracket_33 (by decide) ?_
        refine rp_icmp_ne (tgt := 50) d_mod_bracket_35 (by decide) (fun c35 => ?_) (fun c35 => ?_)
        · refine rp_aload_n (i := 0) d_mod_bracket_50 rfl rfl ?_
          refine rp_iload_n (i := 1) d_mod_bracket_51 rfl rfl ?_
          refine rp_iconst (v := 1) d_mod_bracket_52 (by decide) ?_
          refine rp_iadd d_mod_bracket_53 ?_
          refine rp_callV1 d_mod_bracket_54 q_mod_bracket_59 (Or.inl ⟨_, _, _, rfl, rfl⟩) (Nat.le_of_ble_eq_true rfl) (Nat.le_of_ble_eq_true rfl) ?_
          refine s_mod_comparison (j := p + 1) hR hn h40 (nI_add p 1) (by omega) ?_
          refine rp_istore_n (i := 3) d_mod_bracket_57 rfl rfl (Nat.le_of_ble_eq_true rfl) ?_
          refine rp_iload_n (i := 3) d_mod_bracket_58 rfl rfl ?_
          refine rp_if_ne (tgt := 63) d_mod_bracket_59 (by decide) (fun c59 => ?_) (fun c59 => ?_)
          · refine rp_iload_n (i := 3) d_mod_bracket_63 rfl rfl ?_
            refine rp_iconst (v := 2) d_mod_bracket_64 (by decide) ?_
            refine rp_icmp_eq (tgt := 79) d_mod_bracket_65 (by decide) (fun c65 => ?_) (fun c65 => ?_)
            · refine rp_iload_n (i := 1) d_mod_bracket_79 rfl rfl ?_
              refine rp_iconst (v := 3) d_mod_bracket_80 (by decide) ?_
              refine rp_iadd d_mod_bracket_81 ?_
              refine rp_goto (tgt := 88) d_mod_bracket_82 (by decide) ?_
              rw [r_brk, if_neg (by simp [*]), if_neg (by simp [*])] at k
              first
              | (rw [if_pos (by simp [*])] at k; refine rp_lv [(0, .ref 19), (1, .int (nI p)), (3, .int (r_cmp (r_g h n) (p + 1)))] rfl ?_; exact (nI_add p 3) ▸ l_mod_bracket88 hR hn h40 (by omega) k)
              | (rw [if_neg (by simp [*])] at k; refine rp_lv [(0, .ref 19), (1, .int (nI p)), (3, .int (r_cmp (r_g h n) (p + 1)))] rfl ?_; exact (nI_add p 2) ▸ l_mod_bracket88 hR hn h40 (by omega) k)
            · refine rp_iload_n (i := 3) d_mod_bracket_68 rfl rfl ?_
              refine rp_iconst (v := 4) d_mod_bracket_69 (by decide) ?_
              refine rp_icmp_eq (tgt := 79) d_mod_bracket_70 (by decide) (fun c70 => ?_) (fun c70 => ?_)
              · refine rp_iload_n (i := 1) d_mod_bracket_79 rfl rfl ?_
                refine rp_iconst (v := 3) d_mod_bracket_80 (by decide) ?_
                refine rp_iadd d_mod_bracket_81 ?_
                refine rp_goto (tgt := 88) d_mod_bracket_82 (by decide) ?_
                rw [r_brk, if_neg (by simp [*]), if_neg (by simp [*])] at k
                first
                | (rw [if_pos (by simp [*])] at k; refine rp_lv [(0, .ref 19), (1, .int (nI p)), (3, .int (r_cmp (r_g h n) (p + 1)))] rfl ?_; exact (nI_add p 3) ▸ l_mod_bracket88 hR hn h40 (by omega) k)
                | (rw [if_neg (by simp [*])] at k; refine rp_lv [(0, .ref 19), (1, .int (nI p)), (3, .int (r_cmp (r_g h n) (p + 1)))] rfl ?_; exact (nI_add p 2) ▸ l_mod_bracket88 hR hn h40 (by omega) k)
              · refine rp_iload_n (i := 3) d_mod_bracket_73 rfl rfl ?_
                refine rp_bipush (v := 6) d_mod_bracket_74 (by decide) ?_
                refine rp_icmp_ne (tgt := 85) d_mod_bracket_76 (by decide) (fun c76 => ?_) (fun c76 => ?_)
                · refine rp_iload_n (i := 1) d_mod_bracket_85 rfl rfl ?_
                  refine rp_iconst (v := 2) d_mod_bracket_86 (by decide) ?_
                  refine rp_iadd d_mod_bracket_87 ?_
                  rw [r_brk, if_neg (by simp [*]), if_neg (by simp [*])] at k
                  first
                  | (rw [if_pos (by simp [*])] at k; refine rp_lv [(0, .ref 19), (1, .int (nI p)), (3, .int (r_cmp (r_g h n) (p + 1)))] rfl ?_; exact (nI_add p 3) ▸ l_mod_bracket88 hR hn h40 (by omega) k)
                  | (rw [if_neg (by simp [*])] at k; refine rp_lv [(0, .ref 19), (1, .int (nI p)), (3, .int (r_cmp (r_g h n) (p + 1)))] rfl ?_; exact (nI_add p 2) ▸ l_mod_bracket88 hR hn h40 (by omega) k)
                · refine rp_iload_n (i := 1) d_mod_bracket_79 rfl rfl ?_
                  refine rp_iconst (v := 3) d_mod_bracket_80 (by decide) ?_
                  refine rp_iadd d_mod_bracket_81 ?_
                  refine rp_goto (tgt := 88) d_mod_bracket_82 (by decide) ?_
                  rw [r_brk, if_neg (by simp [*]), if_neg (by simp [*])] at k
                  first
                  | (rw [if_pos (by simp [*])] at k; refine rp_lv [(0, .ref 19), (1, .int (nI p)), (3, .int (r_cmp (r_g h n) (p + 1)))] rfl ?_; exact (nI_add p 3) ▸ l_mod_bracket88 hR hn h40 (by omega) k)
                  | (rw [if_neg (by simp [*])] at k; refine rp_lv [(0, .ref 19), (1, .int (nI p)), (3, .int (r_cmp (r_g h n) (p + 1)))] rfl ?_; exact (nI_add p 2) ▸ l_mod_bracket88 hR hn h40 (by omega) k)
          · refine rp_return d_mod_bracket_62 rfl ?_
            first
            | (rw [r_brk, if_pos (by simp [*]), r_put_1 _ (by decide), ← nI_add] at k; exact k)
            | (rw [r_brk, if_neg (by simp [*]), if_pos (by simp [*]), r_put_0] at k; exact k)
        · refine rp_aload_n (i := 0) d_mod_bracket_38 rfl rfl ?_
          refine rp_bipush (v := 8) d_mod_bracket_39 (by decide) ?_
          refine rp_iload_n (i := 2) d_mod_bracket_41 rfl rfl ?_
          refine rp_iconst (v := 0) d_mod_bracket_42 (by decide) ?_
          refine rp_iload_n (i := 1) d_mod_bracket_43 rfl rfl ?_
          refine rp_iconst (v := 3) d_mod_bracket_44 (by decide) ?_
          refine rp_iadd d_mod_bracket_45 ?_
          refine rp_callV4 d_mod_bracket_46 q_mod_bracket_55 (Or.inl ⟨_, _, _, rfl, rfl⟩) (Nat.le_of_ble_eq_true rfl) (Nat.le_of_ble_eq_true rfl) ?_
          refine s_mod_meet ?_
          refine rp_return d_mod_bracket_49 rfl ?_
          first
          | (rw [r_brk, if_pos (by simp [*]), r_put_1 _ (by decide), ← nI_add] at k; exact k)
          | (rw [r_brk, if_neg (by simp [*]), if_pos (by simp [*]), r_put_0] at k; exact k)

theorem cf_fst_ge (p : Nat → Bool) : ∀ n a, a ≤ cf_fst p a n := by
  intro n
  induction n with
  | zero => intro a; exact Nat.le_refl _
  | succ n ih =>
    intro a
    unfold cf_fst
    cases p a with
    | true => exact Nat.le_refl _
    | false => have := ih (a + 1); show a ≤ cf_fst p (a + 1) n; omega
theorem cf_fst_le (p : Nat → Bool) : ∀ n a, cf_fst p a n ≤ a + n := by
  intro n
  induction n with
  | zero => intro a; exact Nat.le_refl _
  | succ n ih =>
    intro a
    unfold cf_fst
    cases p a with
    | true => show a ≤ _; omega
    | false => have := ih (a + 1); show cf_fst p (a + 1) n ≤ _; omega
def r_quo (g : Nat → Int32) (n p : Nat) : r_T := if cf_fst (fun j => decide (g j = 34)) (p + 1) (n - (p + 1)) < n then (1, nI (p + 1), nI (cf_fst (fun j => decide (g j = 34)) (p + 1) (n - (p + 1))), cf_fst (fun j => decide (g j = 34)) (p + 1) (n - (p + 1)) + 1) else (0, 0, 0, 0)

set_option maxHeartbeats 4000000 in
set_option maxRecDepth 100000 in
theorem l_mod_quoted {h : cf_H} {P : Option Value → cf_H → Prop} (hR : cf_ok h) {n : Nat} (hn : h.1 19 0 = nI n) (h40 : n ≤ 40) {p : Nat} : ∀ (r q : Nat), r = n - q → q < 2 ^ 28 → (k : RP k_mod_quoted 29 [(0, .ref 19), (1, .int (nI p)), (2, .int (nI (cf_fst (fun j => decide (r_g h n j = 34)) q r)))] [] h P) → RP k_mod_quoted 4 [(0, .ref 19), (1, .int (nI p)), (2, .int (nI q))] [] h P := by
  intro r
  induction r with
  | zero =>
    intro q e hq k
    refine rp_iload_n (i := 2) d_mod_quoted_4 rfl rfl ?_
    refine rp_aload_n (i := 0) d_mod_quoted_5 rfl rfl ?_
    refine rp_getI d_mod_quoted_6 f_mod_36 rfl ?_
    refine rp_icmp_ge (tgt := 29) d_mod_quoted_9 (by decide) (fun c9 => ?_) (fun c9 => ?_)
    · exact rp_lv _ rfl k
    · exact absurd (by rw [hn]; exact nI_le (by omega) (by omega)) c9
  | succ r ih =>
    intro q e hq k
    have hlt : q < n := by omega
    have hg : h.2.2.2 20 (nI q).toNatClampNeg = r_g h n q := by rw [nI_clamp (by omega), r_g, r_at, if_pos hlt]
    refine rp_iload_n (i := 2) d_mod_quoted_4 rfl rfl ?_
    refine rp_aload_n (i := 0) d_mod_quoted_5 rfl rfl ?_
    refine rp_getI d_mod_quoted_6 f_mod_36 rfl ?_
    refine rp_icmp_ge (tgt := 29) d_mod_quoted_9 (by decide) (fun c9 => ?_) (fun c9 => ?_)
    · exact absurd c9 (by rw [hn]; exact nI_ge hlt (by omega))
    · refine rp_aload_n (i := 0) d_mod_quoted_12 rfl rfl ?_
      refine rp_getR d_mod_quoted_13 f_mod_7 rfl (hR _ _ _ rfl) ?_
      refine rp_iload_n (i := 2) d_mod_quoted_16 rfl rfl ?_
      refine rp_iaload d_mod_quoted_17 rfl (vp_in_nI (by omega) (by omega)) ?_
      refine rp_bipush (v := 34) d_mod_quoted_18 (by decide) ?_
      refine rp_icmp_eq (tgt := 29) d_mod_quoted_20 (by decide) (fun c20 => ?_) (fun c20 => ?_)
      · rw [hg] at c20
        rw [cf_fst, show decide (r_g h n q = 34) = true by simp [c20]] at k
        exact rp_lv _ rfl k
      · refine rp_iinc (i := 2) (y := 1) d_mod_quoted_23 rfl (by decide) rfl (Nat.le_of_ble_eq_true rfl) ?_
        refine rp_goto (tgt := 4) d_mod_quoted_26 (by decide) ?_
        rw [hg] at c20
        rw [cf_fst, show decide (r_g h n q = 34) = false by simp [c20]] at k
        refine rp_lv [(0, .ref 19), (1, .int (nI p)), (2, .int (nI (q + 1)))] (by simp only [nI_succ]; rfl) ?_
        exact ih (q + 1) (by omega) (by omega) k
set_option maxHeartbeats 4000000 in
set_option maxRecDepth 100000 in
theorem s_mod_quoted {h : cf_H} {P : Option Value → cf_H → Prop} (hR : cf_ok h) {n : Nat} (hn : h.1 19 0 = nI n) (h40 : n ≤ 40) {x : Int32} {p : Nat} (hx : x = nI p) (hp : p < 2 ^ 26) (k : P none (r_put h (r_quo (r_g h n) n p))) : RP k_mod_quoted 0 [(0, .ref 19), (1, .int x)] [] h P := by
  subst hx
  refine rp_iload_n (i := 1) d_mod_quoted_0 rfl rfl ?_
  refine rp_iconst (v := 1) d_mod_quoted_1 (by decide) ?_
  refine rp_iadd d_mod_quoted_2 ?_
  refine rp_istore_n (i := 2) d_mod_quoted_3 rfl rfl (Nat.le_of_ble_eq_true rfl) ?_
  refine rp_lv [(0, .ref 19), (1, .int (nI p)), (2, .int (nI (p + 1)))] (by simp only [nI_succ]; rfl) ?_
  refine l_mod_quoted hR hn h40 (n - (p + 1)) (p + 1) rfl (by omega) ?_
  have hle := cf_fst_le (fun j => decide (r_g h n j = 34)) (n - (p + 1)) (p + 1)
  rw [r_quo] at k
  generalize cf_fst (fun j => decide (r_g h n j = 34)) (p + 1) (n - (p + 1)) = q at k hle ⊢
  refine rp_iload_n (i := 2) d_mod_quoted_29 rfl rfl ?_
  refine rp_aload_n (i := 0) d_mod_quoted_30 rfl rfl ?_
  refine rp_getI d_mod_quoted_31 f_mod_36 rfl ?_
  refine rp_icmp_ge (tgt := 49) d_mod_quoted_34 (by decide) (fun c34 => ?_) (fun c34 => ?_)
  · refine rp_return d_mod_quoted_49 rfl ?_
    first
    | (rw [if_neg (fun z => absurd c34 (by rw [hn]; exact nI_ge z (by omega))), r_put_0] at k; exact k)
    | (rw [if_pos (Nat.not_le.mp (fun z => c34 (by rw [hn]; exact nI_le z (by omega)))), r_put_1 _ (by decide), nI_succ, nI_succ] at k; exact k)
  · refine rp_aload_n (i := 0) d_mod_quoted_37 rfl rfl ?_
    refine rp_iconst (v := 1) d_mod_quoted_38 (by decide) ?_
    refine rp_iload_n (i := 1) d_mod_quoted_39 rfl rfl ?_
    refine rp_iconst (v := 1) d_mod_quoted_40 (by decide) ?_
    refine rp_iadd d_mod_quoted_41 ?_
    refine rp_iload_n (i := 2) d_mod_quoted_42 rfl rfl ?_
    refine rp_iload_n (i := 2) d_mod_quoted_43 rfl rfl ?_
    refine rp_iconst (v := 1) d_mod_quoted_44 (by decide) ?_
    refine rp_iadd d_mod_quoted_45 ?_
    refine rp_callV4 d_mod_quoted_46 q_mod_quoted_55 (Or.inl ⟨_, _, _, rfl, rfl⟩) (Nat.le_of_ble_eq_true rfl) (Nat.le_of_ble_eq_true rfl) ?_
    refine s_mod_meet ?_
    refine rp_return d_mod_quoted_49 rfl ?_
    first
    | (rw [if_neg (fun z => absurd c34 (by rw [hn]; exact nI_ge z (by omega))), r_put_0] at k; exact k)
    | (rw [if_pos (Nat.not_le.mp (fun z => c34 (by rw [hn]; exact nI_le z (by omega)))), r_put_1 _ (by decide), nI_succ, nI_succ] at k; exact k)
end
